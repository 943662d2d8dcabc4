/-! the reference's methods come to an end, within the box (wip/safe/mks.py) -/
set_option maxRecDepth 100000 in
theorem k_2326 {X : List Int32} {d N : Nat} {M0 : zM}  (hN : N ≤ 600) (hB0 : zB N M0) : ZV X (d + 4) 2326 [.ref 386] M0 (zRV N [(396, 402, 1000), (386, 387, 3), (386, 387, 4), (386, 387, 5), (386, 387, 6), (386, 387, 7), (386, 387, 8), (386, 387, 9)] M0 (fun _ => True)) := by
  have hJ0 : zJ N [(396, 402, 1000), (386, 387, 3), (386, 387, 4), (386, 387, 5), (386, 387, 6), (386, 387, 7), (386, 387, 8), (386, 387, 9)] M0 M0 := zJ_refl hB0
  refine ZV.of (ini := false) rfl (Nat.le_of_ble_eq_true rfl) (by decide +kernel) ?_
  show ZW _ _ _ _ _ _ _ (0, [some (.ref 386), none], [], M0)
  refine w_lo dX9_dreaming_0 rfl rfl rfl rfl ?_
  refine w_lo dX9_dreaming_1 rfl rfl rfl rfl ?_
  refine w_gf dX9_dreaming_2 rfl hJ0.1.1 zs_386 (zr_386_21 hJ0.1) ?_
  refine w_lo dX9_dreaming_5 rfl rfl rfl rfl ?_
  refine w_gfi dX9_dreaming_6 rfl hJ0.1 zs_386 (Nat.le_of_ble_eq_true rfl) zo_386_35 ?_
  intro x1 f2 h3 h4
  refine w_iai dX9_dreaming_9 hJ0.1 zs_396 (by omega) (by omega) zu_396 ?_
  intro x8 f5 h6 h7
  refine w_bi dX9_dreaming_10 (c := 6) (by decide) ?_
  rcases Int.decEq x8.toInt (6 : Int) with h9 | h9
  · skip
    refine w_cne_t dX9_dreaming_12 (t := 19) rfl (by have := zt_6; omega) ?_
    refine w_ic dX9_dreaming_19 zi_0 ?_
    refine w_iv dX9_dreaming_20 rfl rfl (As := [.int 0]) rfl rfl hJ0.1.1 zs_386 (Nat.le_of_ble_eq_true rfl) ?_
    refine ZV.of (ini := false) rfl (Nat.le_of_ble_eq_true rfl) (by decide +kernel) ?_
    show ZW _ _ _ _ _ _ _ (0, [some (.ref 386), some (.int 0)], [], M0)
    refine w_lo dX9_counts_0 rfl rfl rfl rfl ?_
    refine w_gfi dX9_counts_1 rfl hJ0.1 zs_386 (Nat.le_of_ble_eq_true rfl) zo_386_8 ?_
    intro x10 f11 h12 h13
    rcases Int.decEq x10.toInt (0 : Int) with h14 | h14
    · skip
      refine w_ine_t dX9_counts_4 (t := 20) rfl (by omega) ?_
      refine w_lo dX9_counts_20 rfl rfl rfl rfl ?_
      refine w_gf dX9_counts_21 rfl hJ0.1.1 zs_386 f11 ?_
      refine w_ine_t dX9_counts_24 (t := 31) rfl (by omega) ?_
      refine w_lo dX9_counts_31 rfl rfl rfl rfl ?_
      refine w_gf dX9_counts_32 rfl hJ0.1.1 zs_386 f11 ?_
      refine w_ine_t dX9_counts_35 (t := 42) rfl (by omega) ?_
      refine w_ic dX9_counts_42 zi_0 ?_
      refine w_en dX9_counts_43 rfl ?_
      show ZW _ _ _ _ _ _ _ (23, [some (.ref 386), none], [.int 0], M0)
      refine w_ine_f dX9_dreaming_23 (t := 27) rfl (by have := zt_0; omega) ?_
      refine w_en dX9_dreaming_26 rfl ?_
      exact ⟨_, rfl, hJ0, trivial⟩
    · skip
      refine w_ine_f dX9_counts_4 (t := 20) rfl (by omega) ?_
      refine w_lo dX9_counts_7 rfl rfl rfl rfl ?_
      refine w_ieq_t dX9_counts_8 (t := 20) rfl (by have := zt_0; omega) ?_
      refine w_lo dX9_counts_20 rfl rfl rfl rfl ?_
      refine w_gf dX9_counts_21 rfl hJ0.1.1 zs_386 f11 ?_
      refine w_ine_f dX9_counts_24 (t := 31) rfl (by omega) ?_
      refine w_lo dX9_counts_27 rfl rfl rfl rfl ?_
      refine w_iv dX9_counts_28 rfl rfl (As := []) rfl rfl hJ0.1.1 zs_386 (Nat.le_of_ble_eq_true rfl) ?_
      refine ZV.imp (k_2310 hN hJ0.1) ?_
      rintro _ ⟨M15, rfl, hJ16, hq17⟩
      have hJ18 := zJ_trans hJ0 hJ16 (zSub_cons (fun _ _ h h' hk => zIR_s (zIR_e (by omega) (by omega) hk)) (zSub_cons (fun _ _ h h' hk => zIR_s (zIR_s (zIR_e (by omega) (by omega) hk))) (zSub_cons (fun _ _ h h' hk => zIR_s (zIR_s (zIR_s (zIR_e (by omega) (by omega) hk)))) (zSub_cons (fun _ _ h h' hk => zIR_s (zIR_s (zIR_s (zIR_s (zIR_e (by omega) (by omega) hk))))) (zSub_cons (fun _ _ h h' hk => zIR_s (zIR_s (zIR_s (zIR_s (zIR_s (zIR_e (by omega) (by omega) hk)))))) (zSub_cons (fun _ _ h h' hk => zIR_s (zIR_s (zIR_s (zIR_s (zIR_s (zIR_s (zIR_e (by omega) (by omega) hk))))))) (zSub_cons (fun _ _ h h' hk => zIR_s (zIR_s (zIR_s (zIR_s (zIR_s (zIR_s (zIR_s (zIR_e (by omega) (by omega) hk)))))))) zSub_nil)))))))
      show ZW _ _ _ _ _ _ _ (31, [some (.ref 386), some (.int 0)], [], M15)
      refine w_lo dX9_counts_31 rfl rfl rfl rfl ?_
      refine w_gfi dX9_counts_32 rfl hJ18.1 zs_386 (Nat.le_of_ble_eq_true rfl) zo_386_8 ?_
      intro x19 f20 h21 h22
      rcases Int.decEq x19.toInt (0 : Int) with h23 | h23
      · skip
        refine w_ine_t dX9_counts_35 (t := 42) rfl (by omega) ?_
        refine w_ic dX9_counts_42 zi_0 ?_
        refine w_en dX9_counts_43 rfl ?_
        show ZW _ _ _ _ _ _ _ (23, [some (.ref 386), none], [.int 0], M15)
        refine w_ine_f dX9_dreaming_23 (t := 27) rfl (by have := zt_0; omega) ?_
        refine w_en dX9_dreaming_26 rfl ?_
        exact ⟨_, rfl, hJ18, trivial⟩
      · skip
        refine w_ine_f dX9_counts_35 (t := 42) rfl (by omega) ?_
        refine w_ic dX9_counts_38 zi_1 ?_
        refine w_gt dX9_counts_39 (t := 43) rfl ?_
        refine w_en dX9_counts_43 rfl ?_
        show ZW _ _ _ _ _ _ _ (23, [some (.ref 386), none], [.int 1], M15)
        refine w_ine_t dX9_dreaming_23 (t := 27) rfl (by have := zt_1; omega) ?_
        refine w_bi dX9_dreaming_27 (c := 6) (by decide) ?_
        refine w_lo dX9_dreaming_29 rfl rfl rfl rfl ?_
        have f24 := (hJ16.2 (386) 35 (zNI_k (by decide) (by decide) (zNI_k (by decide) (by decide) (zNI_k (by decide) (by decide) (zNI_k (by decide) (by decide) (zNI_k (by decide) (by decide) (zNI_k (by decide) (by decide) (zNI_k (by decide) (by decide) zNI_nil)))))))).trans (f2)
        refine w_gf dX9_dreaming_30 rfl hJ18.1.1 zs_386 f24 ?_
        refine w_mulc dX9_dreaming_33 zt_6 (by have := zt_6; omega) ?_
        intro x25 h26
        have := zt_6
        refine w_lo dX9_dreaming_34 rfl rfl rfl rfl ?_
        refine w_gf dX9_dreaming_35 rfl hJ18.1.1 zs_386 (zr_386_21 hJ18.1) ?_
        refine w_lo dX9_dreaming_38 rfl rfl rfl rfl ?_
        refine w_gf dX9_dreaming_39 rfl hJ18.1.1 zs_386 f24 ?_
        have f30 := (hJ16.2 (396) (x1 : Int32).toInt.toNat (zNI (by omega) (zNI (by omega) (zNI (by omega) (zNI (by omega) (zNI (by omega) (zNI (by omega) (zNI (by omega) zNI_nil)))))))).trans (f5)
        refine w_ia dX9_dreaming_42 hJ18.1.1 zs_396 (znat (by omega)) f30 ?_
        refine w_add dX9_dreaming_43 (by omega) ?_
        intro x31 h32
        refine w_lo (ml' := [some (.ref 386), some (.int x31)]) dX9_dreaming_44 rfl rfl rfl rfl ?_
        refine w_lo dX9_dreaming_45 rfl rfl rfl rfl ?_
        refine w_gf dX9_dreaming_46 rfl hJ18.1.1 zs_386 (zr_386_22 hJ18.1) ?_
        refine w_lo dX9_dreaming_49 rfl rfl rfl rfl ?_
        refine w_lo dX9_dreaming_50 rfl rfl rfl rfl ?_
        refine w_iv dX9_dreaming_51 rfl rfl (As := []) rfl rfl hJ18.1.1 zs_386 (Nat.le_of_ble_eq_true rfl) ?_
        refine ZV.imp (k_2318 hN hJ18.1) ?_
        rintro _ ⟨y36, M33, rfl, hJ34, hq35⟩
        have hJ37 := zJ_trans hJ18 hJ34 (zSub_cons (fun _ _ h h' hk => zIR_s (zIR_e (by omega) (by omega) hk)) (zSub_cons (fun _ _ h h' hk => zIR_s (zIR_s (zIR_e (by omega) (by omega) hk))) (zSub_cons (fun _ _ h h' hk => zIR_s (zIR_s (zIR_s (zIR_e (by omega) (by omega) hk)))) (zSub_cons (fun _ _ h h' hk => zIR_s (zIR_s (zIR_s (zIR_s (zIR_e (by omega) (by omega) hk))))) (zSub_cons (fun _ _ h h' hk => zIR_s (zIR_s (zIR_s (zIR_s (zIR_s (zIR_e (by omega) (by omega) hk)))))) (zSub_cons (fun _ _ h h' hk => zIR_s (zIR_s (zIR_s (zIR_s (zIR_s (zIR_s (zIR_e (by omega) (by omega) hk))))))) (zSub_cons (fun _ _ h h' hk => zIR_s (zIR_s (zIR_s (zIR_s (zIR_s (zIR_s (zIR_s (zIR_e (by omega) (by omega) hk)))))))) zSub_nil)))))))
        show ZW _ _ _ _ _ _ _ (54, [some (.ref 386), some (.int x31)], [.long y36, .int x31, .ref 397], M33)
        refine w_lsi dX9_dreaming_54 hJ37 zs_397 (by omega) (by omega) zu_397 (zIR_a (by omega) (by omega)) ?_
        intro M38 hJ39 f40 hn41
        refine w_lo dX9_dreaming_55 rfl rfl rfl rfl ?_
        refine w_me (st' := [.long (7632231 : Int64), .ref 386]) dX9_dreaming_56 rfl rfl rfl rfl rfl ?_
        refine w_iv dX9_dreaming_59 rfl rfl (As := [.long (7632231 : Int64)]) rfl rfl hJ39.1.1 zs_386 (Nat.le_of_ble_eq_true rfl) ?_
        refine ZV.imp (k_2321 hN hJ39.1) ?_
        rintro _ ⟨M42, rfl, hJ43, hq44⟩
        have hJ45 := zJ_trans hJ39 hJ43 (zSub_cons (fun _ _ h h' hk => zIR_s (zIR_e (by omega) (by omega) hk)) (zSub_cons (fun _ _ h h' hk => zIR_s (zIR_s (zIR_e (by omega) (by omega) hk))) (zSub_cons (fun _ _ h h' hk => zIR_s (zIR_s (zIR_s (zIR_e (by omega) (by omega) hk)))) (zSub_cons (fun _ _ h h' hk => zIR_s (zIR_s (zIR_s (zIR_s (zIR_e (by omega) (by omega) hk))))) (zSub_cons (fun _ _ h h' hk => zIR_s (zIR_s (zIR_s (zIR_s (zIR_s (zIR_e (by omega) (by omega) hk)))))) (zSub_cons (fun _ _ h h' hk => zIR_s (zIR_s (zIR_s (zIR_s (zIR_s (zIR_s (zIR_e (by omega) (by omega) hk))))))) (zSub_cons (fun _ _ h h' hk => zIR_s (zIR_s (zIR_s (zIR_s (zIR_s (zIR_s (zIR_s (zIR_e (by omega) (by omega) hk)))))))) zSub_nil)))))))
        show ZW _ _ _ _ _ _ _ (62, [some (.ref 386), some (.int x31)], [], M42)
        refine w_lo dX9_dreaming_62 rfl rfl rfl rfl ?_
        refine w_gf dX9_dreaming_63 rfl hJ45.1.1 zs_386 (zr_386_23 hJ45.1) ?_
        refine w_lo dX9_dreaming_66 rfl rfl rfl rfl ?_
        refine w_lo dX9_dreaming_67 rfl rfl rfl rfl ?_
        refine w_ic dX9_dreaming_68 zi_1 ?_
        refine w_si dX9_dreaming_69 (c := 999) (by decide) ?_
        refine w_iv dX9_dreaming_72 rfl rfl (As := [.int 1, .int 999]) rfl rfl hJ45.1.1 zs_386 (Nat.le_of_ble_eq_true rfl) ?_
        refine ZV.imp (k_2322 1 (by have := zt_1; omega) (by have := zt_1; omega) 999 (by have := zt_999; omega) (by have := zt_999; omega) hN hJ45.1) ?_
        rintro _ ⟨x49, M46, rfl, h50, h51, hJ47, hq48⟩
        have hJ52 := zJ_trans hJ45 hJ47 (zSub_cons (fun _ _ h h' hk => zIR_s (zIR_e (by omega) (by omega) hk)) (zSub_cons (fun _ _ h h' hk => zIR_s (zIR_s (zIR_e (by omega) (by omega) hk))) (zSub_cons (fun _ _ h h' hk => zIR_s (zIR_s (zIR_s (zIR_e (by omega) (by omega) hk)))) (zSub_cons (fun _ _ h h' hk => zIR_s (zIR_s (zIR_s (zIR_s (zIR_e (by omega) (by omega) hk))))) (zSub_cons (fun _ _ h h' hk => zIR_s (zIR_s (zIR_s (zIR_s (zIR_s (zIR_e (by omega) (by omega) hk)))))) (zSub_cons (fun _ _ h h' hk => zIR_s (zIR_s (zIR_s (zIR_s (zIR_s (zIR_s (zIR_e (by omega) (by omega) hk))))))) (zSub_cons (fun _ _ h h' hk => zIR_s (zIR_s (zIR_s (zIR_s (zIR_s (zIR_s (zIR_s (zIR_e (by omega) (by omega) hk)))))))) zSub_nil)))))))
        show ZW _ _ _ _ _ _ _ (75, [some (.ref 386), some (.int x31)], [.int x49, .int x31, .ref 398], M46)
        refine w_isi dX9_dreaming_75 hJ52 zs_398 (by omega) (by omega) zu_398 (zbot _) (ztop _) (zIR_a (by omega) (by omega)) ?_
        intro M53 hJ54 f55 hn56
        refine w_lo dX9_dreaming_76 rfl rfl rfl rfl ?_
        refine w_me (st' := [.long (465491424371 : Int64), .ref 386]) dX9_dreaming_77 rfl rfl rfl rfl rfl ?_
        refine w_iv dX9_dreaming_80 rfl rfl (As := [.long (465491424371 : Int64)]) rfl rfl hJ54.1.1 zs_386 (Nat.le_of_ble_eq_true rfl) ?_
        refine ZV.imp (k_2321 hN hJ54.1) ?_
        rintro _ ⟨M57, rfl, hJ58, hq59⟩
        have hJ60 := zJ_trans hJ54 hJ58 (zSub_cons (fun _ _ h h' hk => zIR_s (zIR_e (by omega) (by omega) hk)) (zSub_cons (fun _ _ h h' hk => zIR_s (zIR_s (zIR_e (by omega) (by omega) hk))) (zSub_cons (fun _ _ h h' hk => zIR_s (zIR_s (zIR_s (zIR_e (by omega) (by omega) hk)))) (zSub_cons (fun _ _ h h' hk => zIR_s (zIR_s (zIR_s (zIR_s (zIR_e (by omega) (by omega) hk))))) (zSub_cons (fun _ _ h h' hk => zIR_s (zIR_s (zIR_s (zIR_s (zIR_s (zIR_e (by omega) (by omega) hk)))))) (zSub_cons (fun _ _ h h' hk => zIR_s (zIR_s (zIR_s (zIR_s (zIR_s (zIR_s (zIR_e (by omega) (by omega) hk))))))) (zSub_cons (fun _ _ h h' hk => zIR_s (zIR_s (zIR_s (zIR_s (zIR_s (zIR_s (zIR_s (zIR_e (by omega) (by omega) hk)))))))) zSub_nil)))))))
        show ZW _ _ _ _ _ _ _ (83, [some (.ref 386), some (.int x31)], [], M57)
        refine w_lo dX9_dreaming_83 rfl rfl rfl rfl ?_
        refine w_gf dX9_dreaming_84 rfl hJ60.1.1 zs_386 (zr_386_24 hJ60.1) ?_
        refine w_lo dX9_dreaming_87 rfl rfl rfl rfl ?_
        refine w_lo dX9_dreaming_88 rfl rfl rfl rfl ?_
        refine w_ic dX9_dreaming_89 zi_1 ?_
        refine w_bi dX9_dreaming_90 (c := 60) (by decide) ?_
        refine w_iv dX9_dreaming_92 rfl rfl (As := [.int 1, .int 60]) rfl rfl hJ60.1.1 zs_386 (Nat.le_of_ble_eq_true rfl) ?_
        refine ZV.imp (k_2322 1 (by have := zt_1; omega) (by have := zt_1; omega) 60 (by have := zt_60; omega) (by have := zt_60; omega) hN hJ60.1) ?_
        rintro _ ⟨x64, M61, rfl, h65, h66, hJ62, hq63⟩
        have hJ67 := zJ_trans hJ60 hJ62 (zSub_cons (fun _ _ h h' hk => zIR_s (zIR_e (by omega) (by omega) hk)) (zSub_cons (fun _ _ h h' hk => zIR_s (zIR_s (zIR_e (by omega) (by omega) hk))) (zSub_cons (fun _ _ h h' hk => zIR_s (zIR_s (zIR_s (zIR_e (by omega) (by omega) hk)))) (zSub_cons (fun _ _ h h' hk => zIR_s (zIR_s (zIR_s (zIR_s (zIR_e (by omega) (by omega) hk))))) (zSub_cons (fun _ _ h h' hk => zIR_s (zIR_s (zIR_s (zIR_s (zIR_s (zIR_e (by omega) (by omega) hk)))))) (zSub_cons (fun _ _ h h' hk => zIR_s (zIR_s (zIR_s (zIR_s (zIR_s (zIR_s (zIR_e (by omega) (by omega) hk))))))) (zSub_cons (fun _ _ h h' hk => zIR_s (zIR_s (zIR_s (zIR_s (zIR_s (zIR_s (zIR_s (zIR_e (by omega) (by omega) hk)))))))) zSub_nil)))))))
        show ZW _ _ _ _ _ _ _ (95, [some (.ref 386), some (.int x31)], [.int x64, .int x31, .ref 399], M61)
        refine w_isi dX9_dreaming_95 hJ67 zs_399 (by omega) (by omega) zu_399 (zbot _) (ztop _) (zIR_a (by omega) (by omega)) ?_
        intro M68 hJ69 f70 hn71
        refine w_lo dX9_dreaming_96 rfl rfl rfl rfl ?_
        refine w_me (st' := [.long (123563851081075 : Int64), .ref 386]) dX9_dreaming_97 rfl rfl rfl rfl rfl ?_
        refine w_iv dX9_dreaming_100 rfl rfl (As := [.long (123563851081075 : Int64)]) rfl rfl hJ69.1.1 zs_386 (Nat.le_of_ble_eq_true rfl) ?_
        refine ZV.imp (k_2321 hN hJ69.1) ?_
        rintro _ ⟨M72, rfl, hJ73, hq74⟩
        have hJ75 := zJ_trans hJ69 hJ73 (zSub_cons (fun _ _ h h' hk => zIR_s (zIR_e (by omega) (by omega) hk)) (zSub_cons (fun _ _ h h' hk => zIR_s (zIR_s (zIR_e (by omega) (by omega) hk))) (zSub_cons (fun _ _ h h' hk => zIR_s (zIR_s (zIR_s (zIR_e (by omega) (by omega) hk)))) (zSub_cons (fun _ _ h h' hk => zIR_s (zIR_s (zIR_s (zIR_s (zIR_e (by omega) (by omega) hk))))) (zSub_cons (fun _ _ h h' hk => zIR_s (zIR_s (zIR_s (zIR_s (zIR_s (zIR_e (by omega) (by omega) hk)))))) (zSub_cons (fun _ _ h h' hk => zIR_s (zIR_s (zIR_s (zIR_s (zIR_s (zIR_s (zIR_e (by omega) (by omega) hk))))))) (zSub_cons (fun _ _ h h' hk => zIR_s (zIR_s (zIR_s (zIR_s (zIR_s (zIR_s (zIR_s (zIR_e (by omega) (by omega) hk)))))))) zSub_nil)))))))
        show ZW _ _ _ _ _ _ _ (103, [some (.ref 386), some (.int x31)], [], M72)
        refine w_lo dX9_dreaming_103 rfl rfl rfl rfl ?_
        refine w_gf dX9_dreaming_104 rfl hJ75.1.1 zs_386 (zr_386_25 hJ75.1) ?_
        refine w_lo dX9_dreaming_107 rfl rfl rfl rfl ?_
        refine w_lo dX9_dreaming_108 rfl rfl rfl rfl ?_
        refine w_ic dX9_dreaming_109 zi_1 ?_
        refine w_si dX9_dreaming_110 (c := 999) (by decide) ?_
        refine w_iv dX9_dreaming_113 rfl rfl (As := [.int 1, .int 999]) rfl rfl hJ75.1.1 zs_386 (Nat.le_of_ble_eq_true rfl) ?_
        refine ZV.imp (k_2322 1 (by have := zt_1; omega) (by have := zt_1; omega) 999 (by have := zt_999; omega) (by have := zt_999; omega) hN hJ75.1) ?_
        rintro _ ⟨x79, M76, rfl, h80, h81, hJ77, hq78⟩
        have hJ82 := zJ_trans hJ75 hJ77 (zSub_cons (fun _ _ h h' hk => zIR_s (zIR_e (by omega) (by omega) hk)) (zSub_cons (fun _ _ h h' hk => zIR_s (zIR_s (zIR_e (by omega) (by omega) hk))) (zSub_cons (fun _ _ h h' hk => zIR_s (zIR_s (zIR_s (zIR_e (by omega) (by omega) hk)))) (zSub_cons (fun _ _ h h' hk => zIR_s (zIR_s (zIR_s (zIR_s (zIR_e (by omega) (by omega) hk))))) (zSub_cons (fun _ _ h h' hk => zIR_s (zIR_s (zIR_s (zIR_s (zIR_s (zIR_e (by omega) (by omega) hk)))))) (zSub_cons (fun _ _ h h' hk => zIR_s (zIR_s (zIR_s (zIR_s (zIR_s (zIR_s (zIR_e (by omega) (by omega) hk))))))) (zSub_cons (fun _ _ h h' hk => zIR_s (zIR_s (zIR_s (zIR_s (zIR_s (zIR_s (zIR_s (zIR_e (by omega) (by omega) hk)))))))) zSub_nil)))))))
        show ZW _ _ _ _ _ _ _ (116, [some (.ref 386), some (.int x31)], [.int x79, .int x31, .ref 400], M76)
        refine w_isi dX9_dreaming_116 hJ82 zs_400 (by omega) (by omega) zu_400 (zbot _) (ztop _) (zIR_a (by omega) (by omega)) ?_
        intro M83 hJ84 f85 hn86
        refine w_lo dX9_dreaming_117 rfl rfl rfl rfl ?_
        refine w_me (st' := [.long (1868850291 : Int64), .ref 386]) dX9_dreaming_118 rfl rfl rfl rfl rfl ?_
        refine w_iv dX9_dreaming_121 rfl rfl (As := [.long (1868850291 : Int64)]) rfl rfl hJ84.1.1 zs_386 (Nat.le_of_ble_eq_true rfl) ?_
        refine ZV.imp (k_2321 hN hJ84.1) ?_
        rintro _ ⟨M87, rfl, hJ88, hq89⟩
        have hJ90 := zJ_trans hJ84 hJ88 (zSub_cons (fun _ _ h h' hk => zIR_s (zIR_e (by omega) (by omega) hk)) (zSub_cons (fun _ _ h h' hk => zIR_s (zIR_s (zIR_e (by omega) (by omega) hk))) (zSub_cons (fun _ _ h h' hk => zIR_s (zIR_s (zIR_s (zIR_e (by omega) (by omega) hk)))) (zSub_cons (fun _ _ h h' hk => zIR_s (zIR_s (zIR_s (zIR_s (zIR_e (by omega) (by omega) hk))))) (zSub_cons (fun _ _ h h' hk => zIR_s (zIR_s (zIR_s (zIR_s (zIR_s (zIR_e (by omega) (by omega) hk)))))) (zSub_cons (fun _ _ h h' hk => zIR_s (zIR_s (zIR_s (zIR_s (zIR_s (zIR_s (zIR_e (by omega) (by omega) hk))))))) (zSub_cons (fun _ _ h h' hk => zIR_s (zIR_s (zIR_s (zIR_s (zIR_s (zIR_s (zIR_s (zIR_e (by omega) (by omega) hk)))))))) zSub_nil)))))))
        show ZW _ _ _ _ _ _ _ (124, [some (.ref 386), some (.int x31)], [], M87)
        refine w_lo dX9_dreaming_124 rfl rfl rfl rfl ?_
        refine w_gf dX9_dreaming_125 rfl hJ90.1.1 zs_386 (zr_386_26 hJ90.1) ?_
        refine w_lo dX9_dreaming_128 rfl rfl rfl rfl ?_
        refine w_lo dX9_dreaming_129 rfl rfl rfl rfl ?_
        refine w_ic dX9_dreaming_130 zi_1 ?_
        refine w_bi dX9_dreaming_131 (c := 99) (by decide) ?_
        refine w_iv dX9_dreaming_133 rfl rfl (As := [.int 1, .int 99]) rfl rfl hJ90.1.1 zs_386 (Nat.le_of_ble_eq_true rfl) ?_
        refine ZV.imp (k_2322 1 (by have := zt_1; omega) (by have := zt_1; omega) 99 (by have := zt_99; omega) (by have := zt_99; omega) hN hJ90.1) ?_
        rintro _ ⟨x94, M91, rfl, h95, h96, hJ92, hq93⟩
        have hJ97 := zJ_trans hJ90 hJ92 (zSub_cons (fun _ _ h h' hk => zIR_s (zIR_e (by omega) (by omega) hk)) (zSub_cons (fun _ _ h h' hk => zIR_s (zIR_s (zIR_e (by omega) (by omega) hk))) (zSub_cons (fun _ _ h h' hk => zIR_s (zIR_s (zIR_s (zIR_e (by omega) (by omega) hk)))) (zSub_cons (fun _ _ h h' hk => zIR_s (zIR_s (zIR_s (zIR_s (zIR_e (by omega) (by omega) hk))))) (zSub_cons (fun _ _ h h' hk => zIR_s (zIR_s (zIR_s (zIR_s (zIR_s (zIR_e (by omega) (by omega) hk)))))) (zSub_cons (fun _ _ h h' hk => zIR_s (zIR_s (zIR_s (zIR_s (zIR_s (zIR_s (zIR_e (by omega) (by omega) hk))))))) (zSub_cons (fun _ _ h h' hk => zIR_s (zIR_s (zIR_s (zIR_s (zIR_s (zIR_s (zIR_s (zIR_e (by omega) (by omega) hk)))))))) zSub_nil)))))))
        show ZW _ _ _ _ _ _ _ (136, [some (.ref 386), some (.int x31)], [.int x94, .int x31, .ref 401], M91)
        refine w_isi dX9_dreaming_136 hJ97 zs_401 (by omega) (by omega) zu_401 (zbot _) (ztop _) (zIR_a (by omega) (by omega)) ?_
        intro M98 hJ99 f100 hn101
        refine w_lo dX9_dreaming_137 rfl rfl rfl rfl ?_
        refine w_gfi dX9_dreaming_138 rfl hJ99.1 zs_386 (Nat.le_of_ble_eq_true rfl) zo_386_8 ?_
        intro x102 f103 h104 h105
        rcases Int.decEq x102.toInt (0 : Int) with h106 | h106
        · skip
          refine w_ine_t dX9_dreaming_141 (t := 157) rfl (by omega) ?_
          refine w_en dX9_dreaming_157 rfl ?_
          exact ⟨_, rfl, hJ99, trivial⟩
        · skip
          refine w_ine_f dX9_dreaming_141 (t := 157) rfl (by omega) ?_
          refine w_lo dX9_dreaming_144 rfl rfl rfl rfl ?_
          refine w_gf dX9_dreaming_145 rfl hJ99.1.1 zs_386 (zr_386_21 hJ99.1) ?_
          refine w_lo dX9_dreaming_148 rfl rfl rfl rfl ?_
          have f107 := (hn101 (386) 35 (Or.inl (by omega))).trans ((hJ92.2 (386) 35 (zNI_k (by decide) (by decide) (zNI_k (by decide) (by decide) (zNI_k (by decide) (by decide) (zNI_k (by decide) (by decide) (zNI_k (by decide) (by decide) (zNI_k (by decide) (by decide) (zNI_k (by decide) (by decide) zNI_nil)))))))).trans ((hJ88.2 (386) 35 (zNI_k (by decide) (by decide) (zNI_k (by decide) (by decide) (zNI_k (by decide) (by decide) (zNI_k (by decide) (by decide) (zNI_k (by decide) (by decide) (zNI_k (by decide) (by decide) (zNI_k (by decide) (by decide) zNI_nil)))))))).trans ((hn86 (386) 35 (Or.inl (by omega))).trans ((hJ77.2 (386) 35 (zNI_k (by decide) (by decide) (zNI_k (by decide) (by decide) (zNI_k (by decide) (by decide) (zNI_k (by decide) (by decide) (zNI_k (by decide) (by decide) (zNI_k (by decide) (by decide) (zNI_k (by decide) (by decide) zNI_nil)))))))).trans ((hJ73.2 (386) 35 (zNI_k (by decide) (by decide) (zNI_k (by decide) (by decide) (zNI_k (by decide) (by decide) (zNI_k (by decide) (by decide) (zNI_k (by decide) (by decide) (zNI_k (by decide) (by decide) (zNI_k (by decide) (by decide) zNI_nil)))))))).trans ((hn71 (386) 35 (Or.inl (by omega))).trans ((hJ62.2 (386) 35 (zNI_k (by decide) (by decide) (zNI_k (by decide) (by decide) (zNI_k (by decide) (by decide) (zNI_k (by decide) (by decide) (zNI_k (by decide) (by decide) (zNI_k (by decide) (by decide) (zNI_k (by decide) (by decide) zNI_nil)))))))).trans ((hJ58.2 (386) 35 (zNI_k (by decide) (by decide) (zNI_k (by decide) (by decide) (zNI_k (by decide) (by decide) (zNI_k (by decide) (by decide) (zNI_k (by decide) (by decide) (zNI_k (by decide) (by decide) (zNI_k (by decide) (by decide) zNI_nil)))))))).trans ((hn56 (386) 35 (Or.inl (by omega))).trans ((hJ47.2 (386) 35 (zNI_k (by decide) (by decide) (zNI_k (by decide) (by decide) (zNI_k (by decide) (by decide) (zNI_k (by decide) (by decide) (zNI_k (by decide) (by decide) (zNI_k (by decide) (by decide) (zNI_k (by decide) (by decide) zNI_nil)))))))).trans ((hJ43.2 (386) 35 (zNI_k (by decide) (by decide) (zNI_k (by decide) (by decide) (zNI_k (by decide) (by decide) (zNI_k (by decide) (by decide) (zNI_k (by decide) (by decide) (zNI_k (by decide) (by decide) (zNI_k (by decide) (by decide) zNI_nil)))))))).trans ((hn41 (386) 35 (Or.inl (by omega))).trans ((hJ34.2 (386) 35 (zNI_k (by decide) (by decide) (zNI_k (by decide) (by decide) (zNI_k (by decide) (by decide) (zNI_k (by decide) (by decide) (zNI_k (by decide) (by decide) (zNI_k (by decide) (by decide) (zNI_k (by decide) (by decide) zNI_nil)))))))).trans (f24))))))))))))))
          refine w_gf dX9_dreaming_149 rfl hJ99.1.1 zs_386 f107 ?_
          refine w_pu dX9_dreaming_152 rfl rfl ?_
          have f111 := (hn101 (396) (x1 : Int32).toInt.toNat (Or.inl (by omega))).trans ((hJ92.2 (396) (x1 : Int32).toInt.toNat (zNI (by omega) (zNI (by omega) (zNI (by omega) (zNI (by omega) (zNI (by omega) (zNI (by omega) (zNI (by omega) zNI_nil)))))))).trans ((hJ88.2 (396) (x1 : Int32).toInt.toNat (zNI (by omega) (zNI (by omega) (zNI (by omega) (zNI (by omega) (zNI (by omega) (zNI (by omega) (zNI (by omega) zNI_nil)))))))).trans ((hn86 (396) (x1 : Int32).toInt.toNat (Or.inl (by omega))).trans ((hJ77.2 (396) (x1 : Int32).toInt.toNat (zNI (by omega) (zNI (by omega) (zNI (by omega) (zNI (by omega) (zNI (by omega) (zNI (by omega) (zNI (by omega) zNI_nil)))))))).trans ((hJ73.2 (396) (x1 : Int32).toInt.toNat (zNI (by omega) (zNI (by omega) (zNI (by omega) (zNI (by omega) (zNI (by omega) (zNI (by omega) (zNI (by omega) zNI_nil)))))))).trans ((hn71 (396) (x1 : Int32).toInt.toNat (Or.inl (by omega))).trans ((hJ62.2 (396) (x1 : Int32).toInt.toNat (zNI (by omega) (zNI (by omega) (zNI (by omega) (zNI (by omega) (zNI (by omega) (zNI (by omega) (zNI (by omega) zNI_nil)))))))).trans ((hJ58.2 (396) (x1 : Int32).toInt.toNat (zNI (by omega) (zNI (by omega) (zNI (by omega) (zNI (by omega) (zNI (by omega) (zNI (by omega) (zNI (by omega) zNI_nil)))))))).trans ((hn56 (396) (x1 : Int32).toInt.toNat (Or.inl (by omega))).trans ((hJ47.2 (396) (x1 : Int32).toInt.toNat (zNI (by omega) (zNI (by omega) (zNI (by omega) (zNI (by omega) (zNI (by omega) (zNI (by omega) (zNI (by omega) zNI_nil)))))))).trans ((hJ43.2 (396) (x1 : Int32).toInt.toNat (zNI (by omega) (zNI (by omega) (zNI (by omega) (zNI (by omega) (zNI (by omega) (zNI (by omega) (zNI (by omega) zNI_nil)))))))).trans ((hn41 (396) (x1 : Int32).toInt.toNat (Or.inl (by omega))).trans ((hJ34.2 (396) (x1 : Int32).toInt.toNat (zNI (by omega) (zNI (by omega) (zNI (by omega) (zNI (by omega) (zNI (by omega) (zNI (by omega) (zNI (by omega) zNI_nil)))))))).trans (f30))))))))))))))
          refine w_ia dX9_dreaming_153 hJ99.1.1 zs_396 (znat (by omega)) f111 ?_
          refine w_ic dX9_dreaming_154 zi_1 ?_
          refine w_add dX9_dreaming_155 (by have := zt_1; omega) ?_
          intro x112 h113
          have := zt_1
          refine w_isi dX9_dreaming_156 hJ99 zs_396 (by omega) (by omega) zu_396 (by omega) (by omega) (zIR_a (by omega) (by omega)) ?_
          intro M114 hJ115 f116 hn117
          refine w_en dX9_dreaming_157 rfl ?_
          exact ⟨_, rfl, hJ115, trivial⟩
  · skip
    refine w_cne_f dX9_dreaming_12 (t := 19) rfl (by have := zt_6; omega) ?_
    refine w_ic dX9_dreaming_15 zi_1 ?_
    refine w_gt dX9_dreaming_16 (t := 20) rfl ?_
    refine w_iv dX9_dreaming_20 rfl rfl (As := [.int 1]) rfl rfl hJ0.1.1 zs_386 (Nat.le_of_ble_eq_true rfl) ?_
    refine ZV.of (ini := false) rfl (Nat.le_of_ble_eq_true rfl) (by decide +kernel) ?_
    show ZW _ _ _ _ _ _ _ (0, [some (.ref 386), some (.int 1)], [], M0)
    refine w_lo dX9_counts_0 rfl rfl rfl rfl ?_
    refine w_gfi dX9_counts_1 rfl hJ0.1 zs_386 (Nat.le_of_ble_eq_true rfl) zo_386_8 ?_
    intro x118 f119 h120 h121
    rcases Int.decEq x118.toInt (0 : Int) with h122 | h122
    · skip
      refine w_ine_t dX9_counts_4 (t := 20) rfl (by omega) ?_
      refine w_lo dX9_counts_20 rfl rfl rfl rfl ?_
      refine w_gf dX9_counts_21 rfl hJ0.1.1 zs_386 f119 ?_
      refine w_ine_t dX9_counts_24 (t := 31) rfl (by omega) ?_
      refine w_lo dX9_counts_31 rfl rfl rfl rfl ?_
      refine w_gf dX9_counts_32 rfl hJ0.1.1 zs_386 f119 ?_
      refine w_ine_t dX9_counts_35 (t := 42) rfl (by omega) ?_
      refine w_ic dX9_counts_42 zi_0 ?_
      refine w_en dX9_counts_43 rfl ?_
      show ZW _ _ _ _ _ _ _ (23, [some (.ref 386), none], [.int 0], M0)
      refine w_ine_f dX9_dreaming_23 (t := 27) rfl (by have := zt_0; omega) ?_
      refine w_en dX9_dreaming_26 rfl ?_
      exact ⟨_, rfl, hJ0, trivial⟩
    · skip
      refine w_ine_f dX9_counts_4 (t := 20) rfl (by omega) ?_
      refine w_lo dX9_counts_7 rfl rfl rfl rfl ?_
      refine w_ieq_f dX9_counts_8 (t := 20) rfl (by have := zt_1; omega) ?_
      refine w_lo dX9_counts_11 rfl rfl rfl rfl ?_
      refine w_ic dX9_counts_12 zi_5 ?_
      refine w_lo dX9_counts_13 rfl rfl rfl rfl ?_
      refine w_gfi dX9_counts_14 rfl hJ0.1 zs_386 (Nat.le_of_ble_eq_true rfl) zo_386_4 ?_
      intro x123 f124 h125 h126
      refine w_iv dX9_counts_17 rfl rfl (As := [.int 5, .int x123]) rfl rfl hJ0.1.1 zs_386 (Nat.le_of_ble_eq_true rfl) ?_
      refine ZV.of (ini := false) rfl (Nat.le_of_ble_eq_true rfl) (by decide +kernel) ?_
      show ZW _ _ _ _ _ _ _ (0, [some (.ref 386), some (.int 5), some (.int x123)], [], M0)
      refine w_lo dX9_blame_0 rfl rfl rfl rfl ?_
      refine w_gf dX9_blame_1 rfl hJ0.1.1 zs_386 f119 ?_
      refine w_ile_t dX9_blame_4 (t := 8) rfl (by omega) ?_
      refine w_lo dX9_blame_8 rfl rfl rfl rfl ?_
      refine w_lo dX9_blame_9 rfl rfl rfl rfl ?_
      refine w_pfi dX9_blame_10 rfl hJ0 zs_386 (Nat.le_of_ble_eq_true rfl) zo_386_8 (by have := zt_5; omega) (by have := zt_5; omega) (zIR_s (zIR_s (zIR_s (zIR_s (zIR_s (zIR_s (zIR_k (by omega) (by omega)))))))) rfl rfl rfl ?_
      intro M127 hJ128 f129 hn130
      refine w_lo dX9_blame_13 rfl rfl rfl rfl ?_
      refine w_lo dX9_blame_14 rfl rfl rfl rfl ?_
      refine w_pfi dX9_blame_15 rfl hJ128 zs_386 (Nat.le_of_ble_eq_true rfl) zo_386_9 (by omega) (by omega) (zIR_s (zIR_s (zIR_s (zIR_s (zIR_s (zIR_s (zIR_s (zIR_k (by omega) (by omega))))))))) rfl rfl rfl ?_
      intro M131 hJ132 f133 hn134
      refine w_en dX9_blame_18 rfl ?_
      show ZW _ _ _ _ _ _ _ (20, [some (.ref 386), some (.int 1)], [], M131)
      refine w_lo dX9_counts_20 rfl rfl rfl rfl ?_
      have f135 := (hn134 (386) 8 (Or.inr (by decide))).trans (f129)
      refine w_gf dX9_counts_21 rfl hJ132.1.1 zs_386 f135 ?_
      refine w_ine_t dX9_counts_24 (t := 31) rfl (by have := zt_5; omega) ?_
      refine w_lo dX9_counts_31 rfl rfl rfl rfl ?_
      refine w_gf dX9_counts_32 rfl hJ132.1.1 zs_386 f135 ?_
      refine w_ine_t dX9_counts_35 (t := 42) rfl (by have := zt_5; omega) ?_
      refine w_ic dX9_counts_42 zi_0 ?_
      refine w_en dX9_counts_43 rfl ?_
      show ZW _ _ _ _ _ _ _ (23, [some (.ref 386), none], [.int 0], M131)
      refine w_ine_f dX9_dreaming_23 (t := 27) rfl (by have := zt_0; omega) ?_
      refine w_en dX9_dreaming_26 rfl ?_
      exact ⟨_, rfl, hJ132, trivial⟩
set_option maxRecDepth 100000 in
theorem k_2338 {X : List Int32} {d N : Nat} {M0 : zM} (a0 : Int32) (ha00 : (0 : Int) ≤ a0.toInt) (ha01 : a0.toInt ≤ 22) (hN : N ≤ 600) (hB0 : zB N M0) : ZV X (d + 1) 2338 [.int a0] M0 (zRI N [] M0 (1) (6) (fun _ _ => True)) := by
  have hJ0 : zJ N [] M0 M0 := zJ_refl hB0
  refine ZV.of (ini := false) rfl (Nat.le_of_ble_eq_true rfl) (by decide +kernel) ?_
  show ZW _ _ _ _ _ _ _ (0, [some (.int a0)], [], M0)
  refine w_lo dX9_rank_0 rfl rfl rfl rfl ?_
  refine w_bi dX9_rank_1 (c := 21) (by decide) ?_
  rcases Int.decEq a0.toInt (21 : Int) with h1 | h1
  · skip
    refine w_cne_t dX9_rank_3 (t := 10) rfl (by have := zt_21; omega) ?_
    refine w_lo dX9_rank_10 rfl rfl rfl rfl ?_
    refine w_bi dX9_rank_11 (c := 20) (by decide) ?_
    rcases Int.decEq a0.toInt (20 : Int) with h2 | h2
    · skip
      refine w_cne_t dX9_rank_13 (t := 20) rfl (by have := zt_20; omega) ?_
      refine w_lo dX9_rank_20 rfl rfl rfl rfl ?_
      refine w_bi dX9_rank_21 (c := 22) (by decide) ?_
      rcases Int.decEq a0.toInt (22 : Int) with h3 | h3
      · skip
        refine w_cne_t dX9_rank_23 (t := 30) rfl (by have := zt_22; omega) ?_
        refine w_lo dX9_rank_30 rfl rfl rfl rfl ?_
        refine w_bi dX9_rank_31 (c := 17) (by decide) ?_
        rcases Int.decEq a0.toInt (17 : Int) with h4 | h4
        · skip
          refine w_ceq_f dX9_rank_33 (t := 48) rfl (by have := zt_17; omega) ?_
          refine w_lo dX9_rank_36 rfl rfl rfl rfl ?_
          refine w_bi dX9_rank_37 (c := 18) (by decide) ?_
          rcases Int.decEq a0.toInt (18 : Int) with h5 | h5
          · skip
            refine w_ceq_f dX9_rank_39 (t := 48) rfl (by have := zt_18; omega) ?_
            refine w_lo dX9_rank_42 rfl rfl rfl rfl ?_
            refine w_bi dX9_rank_43 (c := 19) (by decide) ?_
            rcases Int.decEq a0.toInt (19 : Int) with h6 | h6
            · skip
              refine w_cne_t dX9_rank_45 (t := 52) rfl (by have := zt_19; omega) ?_
              refine w_lo dX9_rank_52 rfl rfl rfl rfl ?_
              refine w_bi dX9_rank_53 (c := 10) (by decide) ?_
              rcases Int.decEq a0.toInt (10 : Int) with h7 | h7
              · skip
                refine w_ceq_f dX9_rank_55 (t := 64) rfl (by have := zt_10; omega) ?_
                refine w_lo dX9_rank_58 rfl rfl rfl rfl ?_
                refine w_bi dX9_rank_59 (c := 11) (by decide) ?_
                rcases Int.decEq a0.toInt (11 : Int) with h8 | h8
                · skip
                  refine w_cne_t dX9_rank_61 (t := 68) rfl (by have := zt_11; omega) ?_
                  refine w_bi dX9_rank_68 (c := 6) (by decide) ?_
                  refine w_en dX9_rank_70 rfl ?_
                  exact ⟨_, _, rfl, (by have := zt_6; omega), (by have := zt_6; omega), hJ0, trivial⟩
                · skip
                  refine w_cne_f dX9_rank_61 (t := 68) rfl (by have := zt_11; omega) ?_
                  refine w_ic dX9_rank_64 zi_5 ?_
                  refine w_gt dX9_rank_65 (t := 70) rfl ?_
                  refine w_en dX9_rank_70 rfl ?_
                  exact ⟨_, _, rfl, (by have := zt_5; omega), (by have := zt_5; omega), hJ0, trivial⟩
              · skip
                refine w_ceq_t dX9_rank_55 (t := 64) rfl (by have := zt_10; omega) ?_
                refine w_ic dX9_rank_64 zi_5 ?_
                refine w_gt dX9_rank_65 (t := 70) rfl ?_
                refine w_en dX9_rank_70 rfl ?_
                exact ⟨_, _, rfl, (by have := zt_5; omega), (by have := zt_5; omega), hJ0, trivial⟩
            · skip
              refine w_cne_f dX9_rank_45 (t := 52) rfl (by have := zt_19; omega) ?_
              refine w_ic dX9_rank_48 zi_4 ?_
              refine w_gt dX9_rank_49 (t := 70) rfl ?_
              refine w_en dX9_rank_70 rfl ?_
              exact ⟨_, _, rfl, (by have := zt_4; omega), (by have := zt_4; omega), hJ0, trivial⟩
          · skip
            refine w_ceq_t dX9_rank_39 (t := 48) rfl (by have := zt_18; omega) ?_
            refine w_ic dX9_rank_48 zi_4 ?_
            refine w_gt dX9_rank_49 (t := 70) rfl ?_
            refine w_en dX9_rank_70 rfl ?_
            exact ⟨_, _, rfl, (by have := zt_4; omega), (by have := zt_4; omega), hJ0, trivial⟩
        · skip
          refine w_ceq_t dX9_rank_33 (t := 48) rfl (by have := zt_17; omega) ?_
          refine w_ic dX9_rank_48 zi_4 ?_
          refine w_gt dX9_rank_49 (t := 70) rfl ?_
          refine w_en dX9_rank_70 rfl ?_
          exact ⟨_, _, rfl, (by have := zt_4; omega), (by have := zt_4; omega), hJ0, trivial⟩
      · skip
        refine w_cne_f dX9_rank_23 (t := 30) rfl (by have := zt_22; omega) ?_
        refine w_ic dX9_rank_26 zi_3 ?_
        refine w_gt dX9_rank_27 (t := 70) rfl ?_
        refine w_en dX9_rank_70 rfl ?_
        exact ⟨_, _, rfl, (by have := zt_3; omega), (by have := zt_3; omega), hJ0, trivial⟩
    · skip
      refine w_cne_f dX9_rank_13 (t := 20) rfl (by have := zt_20; omega) ?_
      refine w_ic dX9_rank_16 zi_2 ?_
      refine w_gt dX9_rank_17 (t := 70) rfl ?_
      refine w_en dX9_rank_70 rfl ?_
      exact ⟨_, _, rfl, (by have := zt_2; omega), (by have := zt_2; omega), hJ0, trivial⟩
  · skip
    refine w_cne_f dX9_rank_3 (t := 10) rfl (by have := zt_21; omega) ?_
    refine w_ic dX9_rank_6 zi_1 ?_
    refine w_gt dX9_rank_7 (t := 70) rfl ?_
    refine w_en dX9_rank_70 rfl ?_
    exact ⟨_, _, rfl, (by have := zt_1; omega), (by have := zt_1; omega), hJ0, trivial⟩
set_option maxRecDepth 100000 in
theorem k_2340 {X : List Int32} {d N : Nat} {M0 : zM} (a0 : Int32) (ha00 : (59 : Int) ≤ a0.toInt) (ha01 : a0.toInt ≤ 59) (hN : N ≤ 600) (hB0 : zB N M0) : ZV X (d + 3) 2340 [.ref 386, .int a0] M0 (zRV N [(386, 387, 3), (386, 387, 4), (386, 387, 5), (386, 387, 6), (386, 387, 7), (386, 387, 8), (386, 387, 9)] M0 (fun _ => True)) := by
  have hJ0 : zJ N [(386, 387, 3), (386, 387, 4), (386, 387, 5), (386, 387, 6), (386, 387, 7), (386, 387, 8), (386, 387, 9)] M0 M0 := zJ_refl hB0
  refine ZV.of (ini := false) rfl (Nat.le_of_ble_eq_true rfl) (by decide +kernel) ?_
  show ZW _ _ _ _ _ _ _ (0, [some (.ref 386), some (.int a0)], [], M0)
  refine w_lo dX9_must_0 rfl rfl rfl rfl ?_
  refine w_lo dX9_must_1 rfl rfl rfl rfl ?_
  refine w_iv dX9_must_2 rfl rfl (As := [.int a0]) rfl rfl hJ0.1.1 zs_386 (Nat.le_of_ble_eq_true rfl) ?_
  refine ZV.of (ini := false) rfl (Nat.le_of_ble_eq_true rfl) (by decide +kernel) ?_
  show ZW _ _ _ _ _ _ _ (0, [some (.ref 386), some (.int a0)], [], M0)
  refine w_lo dX9_isSign_0 rfl rfl rfl rfl ?_
  refine w_gfi dX9_isSign_1 rfl hJ0.1 zs_386 (Nat.le_of_ble_eq_true rfl) zo_386_3 ?_
  intro x1 f2 h3 h4
  refine w_ic dX9_isSign_4 zi_3 ?_
  rcases Int.decEq x1.toInt (3 : Int) with h5 | h5
  · skip
    refine w_cne_t dX9_isSign_5 (t := 20) rfl (by have := zt_3; omega) ?_
    refine w_ic dX9_isSign_20 zi_0 ?_
    refine w_en dX9_isSign_21 rfl ?_
    show ZW _ _ _ _ _ _ _ (5, [some (.ref 386), some (.int a0)], [.int 0], M0)
    refine w_ine_f dX9_must_5 (t := 17) rfl (by have := zt_0; omega) ?_
    refine w_lo dX9_must_8 rfl rfl rfl rfl ?_
    refine w_ic dX9_must_9 zi_1 ?_
    refine w_lo dX9_must_10 rfl rfl rfl rfl ?_
    refine w_gfi dX9_must_11 rfl hJ0.1 zs_386 (Nat.le_of_ble_eq_true rfl) zo_386_4 ?_
    intro x6 f7 h8 h9
    refine w_iv dX9_must_14 rfl rfl (As := [.int 1, .int x6]) rfl rfl hJ0.1.1 zs_386 (Nat.le_of_ble_eq_true rfl) ?_
    refine ZV.of (ini := false) rfl (Nat.le_of_ble_eq_true rfl) (by decide +kernel) ?_
    show ZW _ _ _ _ _ _ _ (0, [some (.ref 386), some (.int 1), some (.int x6)], [], M0)
    refine w_lo dX9_blame_0 rfl rfl rfl rfl ?_
    refine w_gfi dX9_blame_1 rfl hJ0.1 zs_386 (Nat.le_of_ble_eq_true rfl) zo_386_8 ?_
    intro x10 f11 h12 h13
    rcases zcut (0 : Int) x10.toInt with h14 | h14
    · skip
      refine w_ile_f dX9_blame_4 (t := 8) rfl (by omega) ?_
      refine w_en dX9_blame_7 rfl ?_
      show ZW _ _ _ _ _ _ _ (17, [some (.ref 386), some (.int a0)], [], M0)
      refine w_lo dX9_must_17 rfl rfl rfl rfl ?_
      refine w_gf dX9_must_18 rfl hJ0.1.1 zs_386 f11 ?_
      refine w_ine_t dX9_must_21 (t := 28) rfl (by omega) ?_
      refine w_en dX9_must_28 rfl ?_
      exact ⟨_, rfl, hJ0, trivial⟩
    · skip
      refine w_ile_t dX9_blame_4 (t := 8) rfl (by omega) ?_
      refine w_lo dX9_blame_8 rfl rfl rfl rfl ?_
      refine w_lo dX9_blame_9 rfl rfl rfl rfl ?_
      refine w_pfi dX9_blame_10 rfl hJ0 zs_386 (Nat.le_of_ble_eq_true rfl) zo_386_8 (by have := zt_1; omega) (by have := zt_1; omega) (zIR_s (zIR_s (zIR_s (zIR_s (zIR_s (zIR_k (by omega) (by omega))))))) rfl rfl rfl ?_
      intro M15 hJ16 f17 hn18
      refine w_lo dX9_blame_13 rfl rfl rfl rfl ?_
      refine w_lo dX9_blame_14 rfl rfl rfl rfl ?_
      refine w_pfi dX9_blame_15 rfl hJ16 zs_386 (Nat.le_of_ble_eq_true rfl) zo_386_9 (by omega) (by omega) (zIR_s (zIR_s (zIR_s (zIR_s (zIR_s (zIR_s (zIR_k (by omega) (by omega)))))))) rfl rfl rfl ?_
      intro M19 hJ20 f21 hn22
      refine w_en dX9_blame_18 rfl ?_
      show ZW _ _ _ _ _ _ _ (17, [some (.ref 386), some (.int a0)], [], M19)
      refine w_lo dX9_must_17 rfl rfl rfl rfl ?_
      have f23 := (hn22 (386) 8 (Or.inr (by decide))).trans (f17)
      refine w_gf dX9_must_18 rfl hJ20.1.1 zs_386 f23 ?_
      refine w_ine_t dX9_must_21 (t := 28) rfl (by have := zt_1; omega) ?_
      refine w_en dX9_must_28 rfl ?_
      exact ⟨_, rfl, hJ20, trivial⟩
  · skip
    refine w_cne_f dX9_isSign_5 (t := 20) rfl (by have := zt_3; omega) ?_
    refine w_lo dX9_isSign_8 rfl rfl rfl rfl ?_
    refine w_gfi dX9_isSign_9 rfl hJ0.1 zs_386 (Nat.le_of_ble_eq_true rfl) zo_386_6 ?_
    intro x24 f25 h26 h27
    refine w_lo dX9_isSign_12 rfl rfl rfl rfl ?_
    rcases Int.decEq x24.toInt a0.toInt with h28 | h28
    · skip
      refine w_cne_t dX9_isSign_13 (t := 20) rfl (by omega) ?_
      refine w_ic dX9_isSign_20 zi_0 ?_
      refine w_en dX9_isSign_21 rfl ?_
      show ZW _ _ _ _ _ _ _ (5, [some (.ref 386), some (.int a0)], [.int 0], M0)
      refine w_ine_f dX9_must_5 (t := 17) rfl (by have := zt_0; omega) ?_
      refine w_lo dX9_must_8 rfl rfl rfl rfl ?_
      refine w_ic dX9_must_9 zi_1 ?_
      refine w_lo dX9_must_10 rfl rfl rfl rfl ?_
      refine w_gfi dX9_must_11 rfl hJ0.1 zs_386 (Nat.le_of_ble_eq_true rfl) zo_386_4 ?_
      intro x29 f30 h31 h32
      refine w_iv dX9_must_14 rfl rfl (As := [.int 1, .int x29]) rfl rfl hJ0.1.1 zs_386 (Nat.le_of_ble_eq_true rfl) ?_
      refine ZV.of (ini := false) rfl (Nat.le_of_ble_eq_true rfl) (by decide +kernel) ?_
      show ZW _ _ _ _ _ _ _ (0, [some (.ref 386), some (.int 1), some (.int x29)], [], M0)
      refine w_lo dX9_blame_0 rfl rfl rfl rfl ?_
      refine w_gfi dX9_blame_1 rfl hJ0.1 zs_386 (Nat.le_of_ble_eq_true rfl) zo_386_8 ?_
      intro x33 f34 h35 h36
      rcases zcut (0 : Int) x33.toInt with h37 | h37
      · skip
        refine w_ile_f dX9_blame_4 (t := 8) rfl (by omega) ?_
        refine w_en dX9_blame_7 rfl ?_
        show ZW _ _ _ _ _ _ _ (17, [some (.ref 386), some (.int a0)], [], M0)
        refine w_lo dX9_must_17 rfl rfl rfl rfl ?_
        refine w_gf dX9_must_18 rfl hJ0.1.1 zs_386 f34 ?_
        refine w_ine_t dX9_must_21 (t := 28) rfl (by omega) ?_
        refine w_en dX9_must_28 rfl ?_
        exact ⟨_, rfl, hJ0, trivial⟩
      · skip
        refine w_ile_t dX9_blame_4 (t := 8) rfl (by omega) ?_
        refine w_lo dX9_blame_8 rfl rfl rfl rfl ?_
        refine w_lo dX9_blame_9 rfl rfl rfl rfl ?_
        refine w_pfi dX9_blame_10 rfl hJ0 zs_386 (Nat.le_of_ble_eq_true rfl) zo_386_8 (by have := zt_1; omega) (by have := zt_1; omega) (zIR_s (zIR_s (zIR_s (zIR_s (zIR_s (zIR_k (by omega) (by omega))))))) rfl rfl rfl ?_
        intro M38 hJ39 f40 hn41
        refine w_lo dX9_blame_13 rfl rfl rfl rfl ?_
        refine w_lo dX9_blame_14 rfl rfl rfl rfl ?_
        refine w_pfi dX9_blame_15 rfl hJ39 zs_386 (Nat.le_of_ble_eq_true rfl) zo_386_9 (by omega) (by omega) (zIR_s (zIR_s (zIR_s (zIR_s (zIR_s (zIR_s (zIR_k (by omega) (by omega)))))))) rfl rfl rfl ?_
        intro M42 hJ43 f44 hn45
        refine w_en dX9_blame_18 rfl ?_
        show ZW _ _ _ _ _ _ _ (17, [some (.ref 386), some (.int a0)], [], M42)
        refine w_lo dX9_must_17 rfl rfl rfl rfl ?_
        have f46 := (hn45 (386) 8 (Or.inr (by decide))).trans (f40)
        refine w_gf dX9_must_18 rfl hJ43.1.1 zs_386 f46 ?_
        refine w_ine_t dX9_must_21 (t := 28) rfl (by have := zt_1; omega) ?_
        refine w_en dX9_must_28 rfl ?_
        exact ⟨_, rfl, hJ43, trivial⟩
    · skip
      refine w_cne_f dX9_isSign_13 (t := 20) rfl (by omega) ?_
      refine w_ic dX9_isSign_16 zi_1 ?_
      refine w_gt dX9_isSign_17 (t := 21) rfl ?_
      refine w_en dX9_isSign_21 rfl ?_
      show ZW _ _ _ _ _ _ _ (5, [some (.ref 386), some (.int a0)], [.int 1], M0)
      refine w_ine_t dX9_must_5 (t := 17) rfl (by have := zt_1; omega) ?_
      refine w_lo dX9_must_17 rfl rfl rfl rfl ?_
      refine w_gfi dX9_must_18 rfl hJ0.1 zs_386 (Nat.le_of_ble_eq_true rfl) zo_386_8 ?_
      intro x47 f48 h49 h50
      rcases Int.decEq x47.toInt (0 : Int) with h51 | h51
      · skip
        refine w_ine_t dX9_must_21 (t := 28) rfl (by omega) ?_
        refine w_en dX9_must_28 rfl ?_
        exact ⟨_, rfl, hJ0, trivial⟩
      · skip
        refine w_ine_f dX9_must_21 (t := 28) rfl (by omega) ?_
        refine w_lo dX9_must_24 rfl rfl rfl rfl ?_
        refine w_iv dX9_must_25 rfl rfl (As := []) rfl rfl hJ0.1.1 zs_386 (Nat.le_of_ble_eq_true rfl) ?_
        refine ZV.imp (k_2310 hN hJ0.1) ?_
        rintro _ ⟨M52, rfl, hJ53, hq54⟩
        have hJ55 := zJ_trans hJ0 hJ53 (zSub_cons (fun _ _ h h' hk => zIR_e (by omega) (by omega) hk) (zSub_cons (fun _ _ h h' hk => zIR_s (zIR_e (by omega) (by omega) hk)) (zSub_cons (fun _ _ h h' hk => zIR_s (zIR_s (zIR_e (by omega) (by omega) hk))) (zSub_cons (fun _ _ h h' hk => zIR_s (zIR_s (zIR_s (zIR_e (by omega) (by omega) hk)))) (zSub_cons (fun _ _ h h' hk => zIR_s (zIR_s (zIR_s (zIR_s (zIR_e (by omega) (by omega) hk))))) (zSub_cons (fun _ _ h h' hk => zIR_s (zIR_s (zIR_s (zIR_s (zIR_s (zIR_e (by omega) (by omega) hk)))))) (zSub_cons (fun _ _ h h' hk => zIR_s (zIR_s (zIR_s (zIR_s (zIR_s (zIR_s (zIR_e (by omega) (by omega) hk))))))) zSub_nil)))))))
        show ZW _ _ _ _ _ _ _ (28, [some (.ref 386), some (.int a0)], [], M52)
        refine w_en dX9_must_28 rfl ?_
        exact ⟨_, rfl, hJ55, trivial⟩
set_option maxRecDepth 100000 in
theorem k_2339 {X : List Int32} {d N : Nat} {M0 : zM} (a0 : Int32) (hN : N ≤ 600) (hB0 : zB N M0) : ZV X (d + 4) 2339 [.ref 386, .int a0] M0 (zRV N [(386, 387, 3), (386, 387, 4), (386, 387, 5), (386, 387, 6), (386, 387, 7), (386, 387, 8), (386, 387, 9)] M0 (fun _ => True)) := by
  have hJ0 : zJ N [(386, 387, 3), (386, 387, 4), (386, 387, 5), (386, 387, 6), (386, 387, 7), (386, 387, 8), (386, 387, 9)] M0 M0 := zJ_refl hB0
  refine ZV.of (ini := false) rfl (Nat.le_of_ble_eq_true rfl) (by decide +kernel) ?_
  have main : ∀ n : Nat,
      (∀ (M : zM) (v13_1 : Int32) (v13_2 : Int32), zJ N [(386, 387, 3), (386, 387, 4), (386, 387, 5), (386, 387, 6), (386, 387, 7), (386, 387, 8), (386, 387, 9)] M0 M → ((-2147483648 : Int) ≤ v13_1.toInt) → (v13_1.toInt ≤ 2147483647) → ((0 : Int) ≤ v13_2.toInt) → (v13_2.toInt ≤ 1600) → 4 * (1600 - v13_2.toInt) + 2 < (n : Int) → ZW X (d + 3) 9 false none cX9_ends (zRV N [(386, 387, 3), (386, 387, 4), (386, 387, 5), (386, 387, 6), (386, 387, 7), (386, 387, 8), (386, 387, 9)] M0 (fun _ => True)) (13, [some (.ref 386), some (.int v13_1), some (.int v13_2)], [], M)) ∧
      (∀ (M : zM) (v49_1 : Int32) (v49_2 : Int32), zJ N [(386, 387, 3), (386, 387, 4), (386, 387, 5), (386, 387, 6), (386, 387, 7), (386, 387, 8), (386, 387, 9)] M0 M → ((-2147483648 : Int) ≤ v49_1.toInt) → (v49_1.toInt ≤ 2147483647) → ((0 : Int) ≤ v49_2.toInt) → (v49_2.toInt ≤ 1600) → 1 < (n : Int) → ZW X (d + 3) 9 false none cX9_ends (zRV N [(386, 387, 3), (386, 387, 4), (386, 387, 5), (386, 387, 6), (386, 387, 7), (386, 387, 8), (386, 387, 9)] M0 (fun _ => True)) (49, [some (.ref 386), some (.int v49_1), some (.int v49_2)], [], M)) := by
    intro n
    induction n with
    | zero =>
      exact ⟨(fun M v13_1 v13_2 hJ v13_10 v13_11 v13_20 v13_21 hn => absurd hn (by omega)), (fun M v49_1 v49_2 hJ v49_10 v49_11 v49_20 v49_21 hn => absurd hn (by omega))⟩
    | succ n ih =>
      obtain ⟨ih13, ih49⟩ := ih
      refine ⟨?_, ?_⟩
      · intro M v13_1 v13_2 hJ v13_10 v13_11 v13_20 v13_21 hn
        refine w_lo dX9_ends_13 rfl rfl rfl rfl ?_
        refine w_lo dX9_ends_14 rfl rfl rfl rfl ?_
        refine w_gfi dX9_ends_15 rfl hJ.1 zs_386 (Nat.le_of_ble_eq_true rfl) zo_386_2 ?_
        intro x1 f2 h3 h4
        rcases zcut v13_2.toInt x1.toInt with h5 | h5
        · skip
          refine w_cge_f dX9_ends_18 (t := 49) rfl (by omega) ?_
          refine w_lo dX9_ends_21 rfl rfl rfl rfl ?_
          refine w_gf dX9_ends_22 rfl hJ.1.1 zs_386 (zr_386_0 hJ.1) ?_
          refine w_lo dX9_ends_25 rfl rfl rfl rfl ?_
          refine w_iai dX9_ends_26 hJ.1 zs_387 (by omega) (by omega) zu_387 ?_
          intro x9 f6 h7 h8
          refine w_bi dX9_ends_27 (c := 32) (by decide) ?_
          rcases Int.decEq x9.toInt (32 : Int) with h10 | h10
          · skip
            refine w_ceq_f dX9_ends_29 (t := 43) rfl (by have := zt_32; omega) ?_
            refine w_lo dX9_ends_32 rfl rfl rfl rfl ?_
            refine w_gf dX9_ends_33 rfl hJ.1.1 zs_386 (zr_386_0 hJ.1) ?_
            refine w_lo dX9_ends_36 rfl rfl rfl rfl ?_
            refine w_ia dX9_ends_37 hJ.1.1 zs_387 (znat (by omega)) f6 ?_
            refine w_bi dX9_ends_38 (c := 10) (by decide) ?_
            rcases Int.decEq x9.toInt (10 : Int) with h14 | h14
            · skip
              refine w_cne_t dX9_ends_40 (t := 49) rfl (by have := zt_10; omega) ?_
              exact ih49 M v13_1 v13_2 hJ (zbot _) (ztop _) (by omega) (by omega) (by omega)
            · skip
              refine w_cne_f dX9_ends_40 (t := 49) rfl (by have := zt_10; omega) ?_
              refine w_inc (kk := 2) dX9_ends_43 rfl (m := 1) (by decide) (by omega) ?_
              intro x15 h16
              refine ⟨_, rfl, ?_⟩
              show ZW _ _ _ _ _ _ _ (46, [some (.ref 386), some (.int v13_1), some (.int x15)], [], M)
              refine w_gt dX9_ends_46 (t := 13) rfl ?_
              exact ih13 M v13_1 x15 hJ (zbot _) (ztop _) (by omega) (by omega) (by omega)
          · skip
            refine w_ceq_t dX9_ends_29 (t := 43) rfl (by have := zt_32; omega) ?_
            refine w_inc (kk := 2) dX9_ends_43 rfl (m := 1) (by decide) (by omega) ?_
            intro x17 h18
            refine ⟨_, rfl, ?_⟩
            show ZW _ _ _ _ _ _ _ (46, [some (.ref 386), some (.int v13_1), some (.int x17)], [], M)
            refine w_gt dX9_ends_46 (t := 13) rfl ?_
            exact ih13 M v13_1 x17 hJ (zbot _) (ztop _) (by omega) (by omega) (by omega)
        · skip
          refine w_cge_t dX9_ends_18 (t := 49) rfl (by omega) ?_
          exact ih49 M v13_1 v13_2 hJ (zbot _) (ztop _) (by omega) (by omega) (by omega)
      · intro M v49_1 v49_2 hJ v49_10 v49_11 v49_20 v49_21 hn
        refine w_lo dX9_ends_49 rfl rfl rfl rfl ?_
        refine w_bi dX9_ends_50 (c := 59) (by decide) ?_
        refine w_iv dX9_ends_52 rfl rfl (As := [.int 59]) rfl rfl hJ.1.1 zs_386 (Nat.le_of_ble_eq_true rfl) ?_
        refine ZV.of (ini := false) rfl (Nat.le_of_ble_eq_true rfl) (by decide +kernel) ?_
        show ZW _ _ _ _ _ _ _ (0, [some (.ref 386), some (.int 59)], [], M)
        refine w_lo dX9_isSign_0 rfl rfl rfl rfl ?_
        refine w_gfi dX9_isSign_1 rfl hJ.1 zs_386 (Nat.le_of_ble_eq_true rfl) zo_386_3 ?_
        intro x19 f20 h21 h22
        refine w_ic dX9_isSign_4 zi_3 ?_
        rcases Int.decEq x19.toInt (3 : Int) with h23 | h23
        · skip
          refine w_cne_t dX9_isSign_5 (t := 20) rfl (by have := zt_3; omega) ?_
          refine w_ic dX9_isSign_20 zi_0 ?_
          refine w_en dX9_isSign_21 rfl ?_
          show ZW _ _ _ _ _ _ _ (55, [some (.ref 386), some (.int v49_1), some (.int v49_2)], [.int 0], M)
          refine w_ieq_t dX9_ends_55 (t := 78) rfl (by have := zt_0; omega) ?_
          refine w_lo dX9_ends_78 rfl rfl rfl rfl ?_
          refine w_bi dX9_ends_79 (c := 59) (by decide) ?_
          refine w_iv dX9_ends_81 rfl rfl (As := [.int 59]) rfl rfl hJ.1.1 zs_386 (Nat.le_of_ble_eq_true rfl) ?_
          refine ZV.imp (k_2340 59 (by have := zt_59; omega) (by have := zt_59; omega) hN hJ.1) ?_
          rintro _ ⟨M24, rfl, hJ25, hq26⟩
          have hJ27 := zJ_trans hJ hJ25 (zSub_cons (fun _ _ h h' hk => zIR_e (by omega) (by omega) hk) (zSub_cons (fun _ _ h h' hk => zIR_s (zIR_e (by omega) (by omega) hk)) (zSub_cons (fun _ _ h h' hk => zIR_s (zIR_s (zIR_e (by omega) (by omega) hk))) (zSub_cons (fun _ _ h h' hk => zIR_s (zIR_s (zIR_s (zIR_e (by omega) (by omega) hk)))) (zSub_cons (fun _ _ h h' hk => zIR_s (zIR_s (zIR_s (zIR_s (zIR_e (by omega) (by omega) hk))))) (zSub_cons (fun _ _ h h' hk => zIR_s (zIR_s (zIR_s (zIR_s (zIR_s (zIR_e (by omega) (by omega) hk)))))) (zSub_cons (fun _ _ h h' hk => zIR_s (zIR_s (zIR_s (zIR_s (zIR_s (zIR_s (zIR_e (by omega) (by omega) hk))))))) zSub_nil)))))))
          show ZW _ _ _ _ _ _ _ (84, [some (.ref 386), some (.int v49_1), some (.int v49_2)], [], M24)
          refine w_en dX9_ends_84 rfl ?_
          exact ⟨_, rfl, hJ27, trivial⟩
        · skip
          refine w_cne_f dX9_isSign_5 (t := 20) rfl (by have := zt_3; omega) ?_
          refine w_lo dX9_isSign_8 rfl rfl rfl rfl ?_
          refine w_gfi dX9_isSign_9 rfl hJ.1 zs_386 (Nat.le_of_ble_eq_true rfl) zo_386_6 ?_
          intro x28 f29 h30 h31
          refine w_lo dX9_isSign_12 rfl rfl rfl rfl ?_
          rcases Int.decEq x28.toInt (59 : Int) with h32 | h32
          · skip
            refine w_cne_t dX9_isSign_13 (t := 20) rfl (by have := zt_59; omega) ?_
            refine w_ic dX9_isSign_20 zi_0 ?_
            refine w_en dX9_isSign_21 rfl ?_
            show ZW _ _ _ _ _ _ _ (55, [some (.ref 386), some (.int v49_1), some (.int v49_2)], [.int 0], M)
            refine w_ieq_t dX9_ends_55 (t := 78) rfl (by have := zt_0; omega) ?_
            refine w_lo dX9_ends_78 rfl rfl rfl rfl ?_
            refine w_bi dX9_ends_79 (c := 59) (by decide) ?_
            refine w_iv dX9_ends_81 rfl rfl (As := [.int 59]) rfl rfl hJ.1.1 zs_386 (Nat.le_of_ble_eq_true rfl) ?_
            refine ZV.imp (k_2340 59 (by have := zt_59; omega) (by have := zt_59; omega) hN hJ.1) ?_
            rintro _ ⟨M33, rfl, hJ34, hq35⟩
            have hJ36 := zJ_trans hJ hJ34 (zSub_cons (fun _ _ h h' hk => zIR_e (by omega) (by omega) hk) (zSub_cons (fun _ _ h h' hk => zIR_s (zIR_e (by omega) (by omega) hk)) (zSub_cons (fun _ _ h h' hk => zIR_s (zIR_s (zIR_e (by omega) (by omega) hk))) (zSub_cons (fun _ _ h h' hk => zIR_s (zIR_s (zIR_s (zIR_e (by omega) (by omega) hk)))) (zSub_cons (fun _ _ h h' hk => zIR_s (zIR_s (zIR_s (zIR_s (zIR_e (by omega) (by omega) hk))))) (zSub_cons (fun _ _ h h' hk => zIR_s (zIR_s (zIR_s (zIR_s (zIR_s (zIR_e (by omega) (by omega) hk)))))) (zSub_cons (fun _ _ h h' hk => zIR_s (zIR_s (zIR_s (zIR_s (zIR_s (zIR_s (zIR_e (by omega) (by omega) hk))))))) zSub_nil)))))))
            show ZW _ _ _ _ _ _ _ (84, [some (.ref 386), some (.int v49_1), some (.int v49_2)], [], M33)
            refine w_en dX9_ends_84 rfl ?_
            exact ⟨_, rfl, hJ36, trivial⟩
          · skip
            refine w_cne_f dX9_isSign_13 (t := 20) rfl (by have := zt_59; omega) ?_
            refine w_ic dX9_isSign_16 zi_1 ?_
            refine w_gt dX9_isSign_17 (t := 21) rfl ?_
            refine w_en dX9_isSign_21 rfl ?_
            show ZW _ _ _ _ _ _ _ (55, [some (.ref 386), some (.int v49_1), some (.int v49_2)], [.int 1], M)
            refine w_ieq_f dX9_ends_55 (t := 78) rfl (by have := zt_1; omega) ?_
            refine w_lo dX9_ends_58 rfl rfl rfl rfl ?_
            refine w_bi dX9_ends_59 (c := 90) (by decide) ?_
            rcases Int.decEq v49_1.toInt (90 : Int) with h37 | h37
            · skip
              refine w_cne_t dX9_ends_61 (t := 78) rfl (by have := zt_90; omega) ?_
              refine w_lo dX9_ends_78 rfl rfl rfl rfl ?_
              refine w_bi dX9_ends_79 (c := 59) (by decide) ?_
              refine w_iv dX9_ends_81 rfl rfl (As := [.int 59]) rfl rfl hJ.1.1 zs_386 (Nat.le_of_ble_eq_true rfl) ?_
              refine ZV.imp (k_2340 59 (by have := zt_59; omega) (by have := zt_59; omega) hN hJ.1) ?_
              rintro _ ⟨M38, rfl, hJ39, hq40⟩
              have hJ41 := zJ_trans hJ hJ39 (zSub_cons (fun _ _ h h' hk => zIR_e (by omega) (by omega) hk) (zSub_cons (fun _ _ h h' hk => zIR_s (zIR_e (by omega) (by omega) hk)) (zSub_cons (fun _ _ h h' hk => zIR_s (zIR_s (zIR_e (by omega) (by omega) hk))) (zSub_cons (fun _ _ h h' hk => zIR_s (zIR_s (zIR_s (zIR_e (by omega) (by omega) hk)))) (zSub_cons (fun _ _ h h' hk => zIR_s (zIR_s (zIR_s (zIR_s (zIR_e (by omega) (by omega) hk))))) (zSub_cons (fun _ _ h h' hk => zIR_s (zIR_s (zIR_s (zIR_s (zIR_s (zIR_e (by omega) (by omega) hk)))))) (zSub_cons (fun _ _ h h' hk => zIR_s (zIR_s (zIR_s (zIR_s (zIR_s (zIR_s (zIR_e (by omega) (by omega) hk))))))) zSub_nil)))))))
              show ZW _ _ _ _ _ _ _ (84, [some (.ref 386), some (.int v49_1), some (.int v49_2)], [], M38)
              refine w_en dX9_ends_84 rfl ?_
              exact ⟨_, rfl, hJ41, trivial⟩
            · skip
              refine w_cne_f dX9_ends_61 (t := 78) rfl (by have := zt_90; omega) ?_
              refine w_lo dX9_ends_64 rfl rfl rfl rfl ?_
              refine w_lo dX9_ends_65 rfl rfl rfl rfl ?_
              refine w_gfi dX9_ends_66 rfl hJ.1 zs_386 (Nat.le_of_ble_eq_true rfl) zo_386_2 ?_
              intro x42 f43 h44 h45
              rcases zcut v49_2.toInt x42.toInt with h46 | h46
              · skip
                refine w_cge_f dX9_ends_69 (t := 78) rfl (by omega) ?_
                refine w_lo dX9_ends_72 rfl rfl rfl rfl ?_
                refine w_ic dX9_ends_73 zi_5 ?_
                refine w_lo dX9_ends_74 rfl rfl rfl rfl ?_
                refine w_iv dX9_ends_75 rfl rfl (As := [.int 5, .int v49_2]) rfl rfl hJ.1.1 zs_386 (Nat.le_of_ble_eq_true rfl) ?_
                refine ZV.of (ini := false) rfl (Nat.le_of_ble_eq_true rfl) (by decide +kernel) ?_
                show ZW _ _ _ _ _ _ _ (0, [some (.ref 386), some (.int 5), some (.int v49_2)], [], M)
                refine w_lo dX9_blame_0 rfl rfl rfl rfl ?_
                refine w_gfi dX9_blame_1 rfl hJ.1 zs_386 (Nat.le_of_ble_eq_true rfl) zo_386_8 ?_
                intro x47 f48 h49 h50
                rcases zcut (0 : Int) x47.toInt with h51 | h51
                · skip
                  refine w_ile_f dX9_blame_4 (t := 8) rfl (by omega) ?_
                  refine w_en dX9_blame_7 rfl ?_
                  show ZW _ _ _ _ _ _ _ (78, [some (.ref 386), some (.int v49_1), some (.int v49_2)], [], M)
                  refine w_lo dX9_ends_78 rfl rfl rfl rfl ?_
                  refine w_bi dX9_ends_79 (c := 59) (by decide) ?_
                  refine w_iv dX9_ends_81 rfl rfl (As := [.int 59]) rfl rfl hJ.1.1 zs_386 (Nat.le_of_ble_eq_true rfl) ?_
                  refine ZV.imp (k_2340 59 (by have := zt_59; omega) (by have := zt_59; omega) hN hJ.1) ?_
                  rintro _ ⟨M52, rfl, hJ53, hq54⟩
                  have hJ55 := zJ_trans hJ hJ53 (zSub_cons (fun _ _ h h' hk => zIR_e (by omega) (by omega) hk) (zSub_cons (fun _ _ h h' hk => zIR_s (zIR_e (by omega) (by omega) hk)) (zSub_cons (fun _ _ h h' hk => zIR_s (zIR_s (zIR_e (by omega) (by omega) hk))) (zSub_cons (fun _ _ h h' hk => zIR_s (zIR_s (zIR_s (zIR_e (by omega) (by omega) hk)))) (zSub_cons (fun _ _ h h' hk => zIR_s (zIR_s (zIR_s (zIR_s (zIR_e (by omega) (by omega) hk))))) (zSub_cons (fun _ _ h h' hk => zIR_s (zIR_s (zIR_s (zIR_s (zIR_s (zIR_e (by omega) (by omega) hk)))))) (zSub_cons (fun _ _ h h' hk => zIR_s (zIR_s (zIR_s (zIR_s (zIR_s (zIR_s (zIR_e (by omega) (by omega) hk))))))) zSub_nil)))))))
                  show ZW _ _ _ _ _ _ _ (84, [some (.ref 386), some (.int v49_1), some (.int v49_2)], [], M52)
                  refine w_en dX9_ends_84 rfl ?_
                  exact ⟨_, rfl, hJ55, trivial⟩
                · skip
                  refine w_ile_t dX9_blame_4 (t := 8) rfl (by omega) ?_
                  refine w_lo dX9_blame_8 rfl rfl rfl rfl ?_
                  refine w_lo dX9_blame_9 rfl rfl rfl rfl ?_
                  refine w_pfi dX9_blame_10 rfl hJ zs_386 (Nat.le_of_ble_eq_true rfl) zo_386_8 (by have := zt_5; omega) (by have := zt_5; omega) (zIR_s (zIR_s (zIR_s (zIR_s (zIR_s (zIR_k (by omega) (by omega))))))) rfl rfl rfl ?_
                  intro M56 hJ57 f58 hn59
                  refine w_lo dX9_blame_13 rfl rfl rfl rfl ?_
                  refine w_lo dX9_blame_14 rfl rfl rfl rfl ?_
                  refine w_pfi dX9_blame_15 rfl hJ57 zs_386 (Nat.le_of_ble_eq_true rfl) zo_386_9 (by omega) (by omega) (zIR_s (zIR_s (zIR_s (zIR_s (zIR_s (zIR_s (zIR_k (by omega) (by omega)))))))) rfl rfl rfl ?_
                  intro M60 hJ61 f62 hn63
                  refine w_en dX9_blame_18 rfl ?_
                  show ZW _ _ _ _ _ _ _ (78, [some (.ref 386), some (.int v49_1), some (.int v49_2)], [], M60)
                  refine w_lo dX9_ends_78 rfl rfl rfl rfl ?_
                  refine w_bi dX9_ends_79 (c := 59) (by decide) ?_
                  refine w_iv dX9_ends_81 rfl rfl (As := [.int 59]) rfl rfl hJ61.1.1 zs_386 (Nat.le_of_ble_eq_true rfl) ?_
                  refine ZV.imp (k_2340 59 (by have := zt_59; omega) (by have := zt_59; omega) hN hJ61.1) ?_
                  rintro _ ⟨M64, rfl, hJ65, hq66⟩
                  have hJ67 := zJ_trans hJ61 hJ65 (zSub_cons (fun _ _ h h' hk => zIR_e (by omega) (by omega) hk) (zSub_cons (fun _ _ h h' hk => zIR_s (zIR_e (by omega) (by omega) hk)) (zSub_cons (fun _ _ h h' hk => zIR_s (zIR_s (zIR_e (by omega) (by omega) hk))) (zSub_cons (fun _ _ h h' hk => zIR_s (zIR_s (zIR_s (zIR_e (by omega) (by omega) hk)))) (zSub_cons (fun _ _ h h' hk => zIR_s (zIR_s (zIR_s (zIR_s (zIR_e (by omega) (by omega) hk))))) (zSub_cons (fun _ _ h h' hk => zIR_s (zIR_s (zIR_s (zIR_s (zIR_s (zIR_e (by omega) (by omega) hk)))))) (zSub_cons (fun _ _ h h' hk => zIR_s (zIR_s (zIR_s (zIR_s (zIR_s (zIR_s (zIR_e (by omega) (by omega) hk))))))) zSub_nil)))))))
                  show ZW _ _ _ _ _ _ _ (84, [some (.ref 386), some (.int v49_1), some (.int v49_2)], [], M64)
                  refine w_en dX9_ends_84 rfl ?_
                  exact ⟨_, rfl, hJ67, trivial⟩
              · skip
                refine w_cge_t dX9_ends_69 (t := 78) rfl (by omega) ?_
                refine w_lo dX9_ends_78 rfl rfl rfl rfl ?_
                refine w_bi dX9_ends_79 (c := 59) (by decide) ?_
                refine w_iv dX9_ends_81 rfl rfl (As := [.int 59]) rfl rfl hJ.1.1 zs_386 (Nat.le_of_ble_eq_true rfl) ?_
                refine ZV.imp (k_2340 59 (by have := zt_59; omega) (by have := zt_59; omega) hN hJ.1) ?_
                rintro _ ⟨M68, rfl, hJ69, hq70⟩
                have hJ71 := zJ_trans hJ hJ69 (zSub_cons (fun _ _ h h' hk => zIR_e (by omega) (by omega) hk) (zSub_cons (fun _ _ h h' hk => zIR_s (zIR_e (by omega) (by omega) hk)) (zSub_cons (fun _ _ h h' hk => zIR_s (zIR_s (zIR_e (by omega) (by omega) hk))) (zSub_cons (fun _ _ h h' hk => zIR_s (zIR_s (zIR_s (zIR_e (by omega) (by omega) hk)))) (zSub_cons (fun _ _ h h' hk => zIR_s (zIR_s (zIR_s (zIR_s (zIR_e (by omega) (by omega) hk))))) (zSub_cons (fun _ _ h h' hk => zIR_s (zIR_s (zIR_s (zIR_s (zIR_s (zIR_e (by omega) (by omega) hk)))))) (zSub_cons (fun _ _ h h' hk => zIR_s (zIR_s (zIR_s (zIR_s (zIR_s (zIR_s (zIR_e (by omega) (by omega) hk))))))) zSub_nil)))))))
                show ZW _ _ _ _ _ _ _ (84, [some (.ref 386), some (.int v49_1), some (.int v49_2)], [], M68)
                refine w_en dX9_ends_84 rfl ?_
                exact ⟨_, rfl, hJ71, trivial⟩
  obtain ⟨ih13, ih49⟩ := main 6415
  show ZW _ _ _ _ _ _ _ (0, [some (.ref 386), some (.int a0), none], [], M0)
  refine w_lo dX9_ends_0 rfl rfl rfl rfl ?_
  refine w_gfi dX9_ends_1 rfl hJ0.1 zs_386 (Nat.le_of_ble_eq_true rfl) zo_386_8 ?_
  intro x72 f73 h74 h75
  rcases zcut (0 : Int) x72.toInt with h76 | h76
  · skip
    refine w_ile_f dX9_ends_4 (t := 8) rfl (by omega) ?_
    refine w_en dX9_ends_7 rfl ?_
    exact ⟨_, rfl, hJ0, trivial⟩
  · skip
    refine w_ile_t dX9_ends_4 (t := 8) rfl (by omega) ?_
    refine w_lo dX9_ends_8 rfl rfl rfl rfl ?_
    refine w_gfi dX9_ends_9 rfl hJ0.1 zs_386 (Nat.le_of_ble_eq_true rfl) zo_386_5 ?_
    intro x77 f78 h79 h80
    refine w_lo (ml' := [some (.ref 386), some (.int a0), some (.int x77)]) dX9_ends_12 rfl rfl rfl rfl ?_
    exact ih13 M0 a0 x77 hJ0 (zbot _) (ztop _) (by omega) (by omega) (by omega)
set_option maxRecDepth 100000 in
theorem k_2342 {X : List Int32} {d N : Nat} {M0 : zM} (a0 : Int32) (ha00 : (0 : Int) ≤ a0.toInt) (ha01 : a0.toInt ≤ 255) (hN : N ≤ 600) (hB0 : zB N M0) : ZV X (d + 1) 2342 [.ref 386, .int a0] M0 (zRV N [(421, 426, 1000), (427, 429, 1000)] M0 (fun _ => True)) := by
  have hJ0 : zJ N [(421, 426, 1000), (427, 429, 1000)] M0 M0 := zJ_refl hB0
  refine ZV.of (ini := false) rfl (Nat.le_of_ble_eq_true rfl) (by decide +kernel) ?_
  show ZW _ _ _ _ _ _ _ (0, [some (.ref 386), some (.int a0)], [], M0)
  refine w_lo dX9_clears_0 rfl rfl rfl rfl ?_
  refine w_gf dX9_clears_1 rfl hJ0.1.1 zs_386 (zr_386_52 hJ0.1) ?_
  refine w_lo dX9_clears_4 rfl rfl rfl rfl ?_
  refine w_ic dX9_clears_5 zi_m1 ?_
  refine w_isi dX9_clears_6 hJ0 zs_421 (by omega) (by omega) zu_421 (by have := zt_m1; omega) (by have := zt_m1; omega) (zIR_a (by omega) (by omega)) ?_
  intro M1 hJ2 f3 hn4
  refine w_lo dX9_clears_7 rfl rfl rfl rfl ?_
  refine w_gf dX9_clears_8 rfl hJ2.1.1 zs_386 (zr_386_53 hJ2.1) ?_
  refine w_lo dX9_clears_11 rfl rfl rfl rfl ?_
  refine w_ic dX9_clears_12 zi_0 ?_
  refine w_isi dX9_clears_13 hJ2 zs_422 (by omega) (by omega) zu_422 (zbot _) (ztop _) (zIR_a (by omega) (by omega)) ?_
  intro M5 hJ6 f7 hn8
  refine w_lo dX9_clears_14 rfl rfl rfl rfl ?_
  refine w_gf dX9_clears_15 rfl hJ6.1.1 zs_386 (zr_386_54 hJ6.1) ?_
  refine w_lo dX9_clears_18 rfl rfl rfl rfl ?_
  refine w_ic dX9_clears_19 zi_m1 ?_
  refine w_isi dX9_clears_20 hJ6 zs_423 (by omega) (by omega) zu_423 (by have := zt_m1; omega) (by have := zt_m1; omega) (zIR_a (by omega) (by omega)) ?_
  intro M9 hJ10 f11 hn12
  refine w_lo dX9_clears_21 rfl rfl rfl rfl ?_
  refine w_gf dX9_clears_22 rfl hJ10.1.1 zs_386 (zr_386_55 hJ10.1) ?_
  refine w_lo dX9_clears_25 rfl rfl rfl rfl ?_
  refine w_ic dX9_clears_26 zi_0 ?_
  refine w_isi dX9_clears_27 hJ10 zs_424 (by omega) (by omega) zu_424 (zbot _) (ztop _) (zIR_a (by omega) (by omega)) ?_
  intro M13 hJ14 f15 hn16
  refine w_lo dX9_clears_28 rfl rfl rfl rfl ?_
  refine w_gf dX9_clears_29 rfl hJ14.1.1 zs_386 (zr_386_56 hJ14.1) ?_
  refine w_lo dX9_clears_32 rfl rfl rfl rfl ?_
  refine w_ic dX9_clears_33 zi_0 ?_
  refine w_isi dX9_clears_34 hJ14 zs_425 (by omega) (by omega) zu_425 (by have := zt_0; omega) (by have := zt_0; omega) (zIR_a (by omega) (by omega)) ?_
  intro M17 hJ18 f19 hn20
  refine w_lo dX9_clears_35 rfl rfl rfl rfl ?_
  refine w_gf dX9_clears_36 rfl hJ18.1.1 zs_386 (zr_386_58 hJ18.1) ?_
  refine w_lo dX9_clears_39 rfl rfl rfl rfl ?_
  refine w_ic dX9_clears_40 zi_0 ?_
  refine w_isi dX9_clears_41 hJ18 zs_427 (by omega) (by omega) zu_427 (by have := zt_0; omega) (ztop _) (zIR_s (zIR_a (by omega) (by omega))) ?_
  intro M21 hJ22 f23 hn24
  refine w_lo dX9_clears_42 rfl rfl rfl rfl ?_
  refine w_gf dX9_clears_43 rfl hJ22.1.1 zs_386 (zr_386_59 hJ22.1) ?_
  refine w_lo dX9_clears_46 rfl rfl rfl rfl ?_
  refine w_ic dX9_clears_47 zi_0 ?_
  refine w_isi dX9_clears_48 hJ22 zs_428 (by omega) (by omega) zu_428 (zbot _) (ztop _) (zIR_s (zIR_a (by omega) (by omega))) ?_
  intro M25 hJ26 f27 hn28
  refine w_en dX9_clears_49 rfl ?_
  exact ⟨_, rfl, hJ26, trivial⟩
set_option maxRecDepth 100000 in
theorem k_2341 {X : List Int32} {d N : Nat} {M0 : zM}  (hN : N ≤ 600) (hB0 : zB N M0) : ZV X (d + 2) 2341 [.ref 386] M0 (zRV N [(418, 432, 1000), (386, 387, 65), (386, 387, 68)] M0 (fun _ => True)) := by
  have hJ0 : zJ N [(418, 432, 1000), (386, 387, 65), (386, 387, 68)] M0 M0 := zJ_refl hB0
  refine ZV.of (ini := false) rfl (Nat.le_of_ble_eq_true rfl) (by decide +kernel) ?_
  have main : ∀ n : Nat,
      (∀ (M : zM) (v26_1 : Int32), zJ N [(418, 432, 1000), (386, 387, 65), (386, 387, 68)] M0 M → ((0 : Int) ≤ v26_1.toInt) → (v26_1.toInt ≤ 12) → 4 * (12 - v26_1.toInt) + 54 < (n : Int) → ZW X (d + 1) 9 false none cX9_begins (zRV N [(418, 432, 1000), (386, 387, 65), (386, 387, 68)] M0 (fun _ => True)) (26, [some (.ref 386), some (.int v26_1)], [], M)) ∧
      (∀ (M : zM) (v66_1 : Int32), zJ N [(418, 432, 1000), (386, 387, 65), (386, 387, 68)] M0 M → ((0 : Int) ≤ v66_1.toInt) → (v66_1.toInt ≤ 11) → 4 * (11 - v66_1.toInt) + 1 < (n : Int) → ZW X (d + 1) 9 false none cX9_begins (zRV N [(418, 432, 1000), (386, 387, 65), (386, 387, 68)] M0 (fun _ => True)) (66, [some (.ref 386), some (.int v66_1)], [], M)) := by
    intro n
    induction n with
    | zero =>
      exact ⟨(fun M v26_1 hJ v26_10 v26_11 hn => absurd hn (by omega)), (fun M v66_1 hJ v66_10 v66_11 hn => absurd hn (by omega))⟩
    | succ n ih =>
      obtain ⟨ih26, ih66⟩ := ih
      refine ⟨?_, ?_⟩
      · intro M v26_1 hJ v26_10 v26_11 hn
        refine w_lo dX9_begins_26 rfl rfl rfl rfl ?_
        refine w_bi dX9_begins_27 (c := 12) (by decide) ?_
        rcases zcut v26_1.toInt (12 : Int) with h1 | h1
        · skip
          refine w_cge_f dX9_begins_29 (t := 64) rfl (by have := zt_12; omega) ?_
          refine w_lo dX9_begins_32 rfl rfl rfl rfl ?_
          refine w_gf dX9_begins_33 rfl hJ.1.1 zs_386 (zr_386_50 hJ.1) ?_
          refine w_lo dX9_begins_36 rfl rfl rfl rfl ?_
          refine w_lo dX9_begins_37 rfl rfl rfl rfl ?_
          refine w_isi dX9_begins_38 hJ zs_419 (by omega) (by omega) zu_419 (by omega) (by omega) (zIR_a (by omega) (by omega)) ?_
          intro M2 hJ3 f4 hn5
          refine w_lo dX9_begins_39 rfl rfl rfl rfl ?_
          refine w_gf dX9_begins_40 rfl hJ3.1.1 zs_386 (zr_386_51 hJ3.1) ?_
          refine w_lo dX9_begins_43 rfl rfl rfl rfl ?_
          refine w_ic dX9_begins_44 zi_1 ?_
          refine w_isi dX9_begins_45 hJ3 zs_420 (by omega) (by omega) zu_420 (by have := zt_1; omega) (by have := zt_1; omega) (zIR_a (by omega) (by omega)) ?_
          intro M6 hJ7 f8 hn9
          refine w_lo dX9_begins_46 rfl rfl rfl rfl ?_
          refine w_gf dX9_begins_47 rfl hJ7.1.1 zs_386 (zr_386_57 hJ7.1) ?_
          refine w_lo dX9_begins_50 rfl rfl rfl rfl ?_
          refine w_ic dX9_begins_51 zi_0 ?_
          refine w_isi dX9_begins_52 hJ7 zs_426 (by omega) (by omega) zu_426 (zbot _) (ztop _) (zIR_a (by omega) (by omega)) ?_
          intro M10 hJ11 f12 hn13
          refine w_lo dX9_begins_53 rfl rfl rfl rfl ?_
          refine w_lo dX9_begins_54 rfl rfl rfl rfl ?_
          refine w_iv dX9_begins_55 rfl rfl (As := [.int v26_1]) rfl rfl hJ11.1.1 zs_386 (Nat.le_of_ble_eq_true rfl) ?_
          refine ZV.imp (k_2342 v26_1 (by omega) (by omega) hN hJ11.1) ?_
          rintro _ ⟨M14, rfl, hJ15, hq16⟩
          have hJ17 := zJ_trans hJ11 hJ15 (zSub_cons (fun _ _ h h' hk => zIR_a (by omega) (by omega)) (zSub_cons (fun _ _ h h' hk => zIR_a (by omega) (by omega)) zSub_nil))
          show ZW _ _ _ _ _ _ _ (58, [some (.ref 386), some (.int v26_1)], [], M14)
          refine w_inc (kk := 1) dX9_begins_58 rfl (m := 1) (by decide) (by omega) ?_
          intro x18 h19
          refine ⟨_, rfl, ?_⟩
          show ZW _ _ _ _ _ _ _ (61, [some (.ref 386), some (.int x18)], [], M14)
          refine w_gt dX9_begins_61 (t := 26) rfl ?_
          exact ih26 M14 x18 hJ17 (by omega) (by omega) (by omega)
        · skip
          refine w_cge_t dX9_begins_29 (t := 64) rfl (by have := zt_12; omega) ?_
          refine w_ic dX9_begins_64 zi_0 ?_
          refine w_lo (ml' := [some (.ref 386), some (.int 0)]) dX9_begins_65 rfl rfl rfl rfl ?_
          exact ih66 M 0 hJ (by have := zt_0; omega) (by have := zt_0; omega) (by have := zt_0; omega)
      · intro M v66_1 hJ v66_10 v66_11 hn
        refine w_lo dX9_begins_66 rfl rfl rfl rfl ?_
        refine w_bi dX9_begins_67 (c := 11) (by decide) ?_
        rcases zcut v66_1.toInt (11 : Int) with h20 | h20
        · skip
          refine w_cge_f dX9_begins_69 (t := 105) rfl (by have := zt_11; omega) ?_
          refine w_lo dX9_begins_72 rfl rfl rfl rfl ?_
          refine w_gf dX9_begins_73 rfl hJ.1.1 zs_386 (zr_386_60 hJ.1) ?_
          refine w_lo dX9_begins_76 rfl rfl rfl rfl ?_
          refine w_ic dX9_begins_77 zi_1 ?_
          refine w_isi dX9_begins_78 hJ zs_429 (by omega) (by omega) zu_429 (by have := zt_1; omega) (by have := zt_1; omega) (zIR_a (by omega) (by omega)) ?_
          intro M21 hJ22 f23 hn24
          refine w_lo dX9_begins_79 rfl rfl rfl rfl ?_
          refine w_gf dX9_begins_80 rfl hJ22.1.1 zs_386 (zr_386_61 hJ22.1) ?_
          refine w_lo dX9_begins_83 rfl rfl rfl rfl ?_
          refine w_lo dX9_begins_84 rfl rfl rfl rfl ?_
          refine w_gf dX9_begins_85 rfl hJ22.1.1 zs_386 (zr_386_20 hJ22.1) ?_
          refine w_bi dX9_begins_88 (c := 11) (by decide) ?_
          refine w_lo dX9_begins_90 rfl rfl rfl rfl ?_
          refine w_gfi dX9_begins_91 rfl hJ22.1 zs_386 (Nat.le_of_ble_eq_true rfl) zo_386_12 ?_
          intro x25 f26 h27 h28
          refine w_mulc dX9_begins_94 zt_11 (by have := zt_11; omega) ?_
          intro x29 h30
          have := zt_11
          refine w_lo dX9_begins_95 rfl rfl rfl rfl ?_
          refine w_add dX9_begins_96 (by omega) ?_
          intro x31 h32
          refine w_iai dX9_begins_97 hJ22.1 zs_395 (by omega) (by omega) zu_395 ?_
          intro x36 f33 h34 h35
          refine w_isi dX9_begins_98 hJ22 zs_430 (by omega) (by omega) zu_430 (zbot _) (ztop _) (zIR_a (by omega) (by omega)) ?_
          intro M37 hJ38 f39 hn40
          refine w_inc (kk := 1) dX9_begins_99 rfl (m := 1) (by decide) (by omega) ?_
          intro x41 h42
          refine ⟨_, rfl, ?_⟩
          show ZW _ _ _ _ _ _ _ (102, [some (.ref 386), some (.int x41)], [], M37)
          refine w_gt dX9_begins_102 (t := 66) rfl ?_
          exact ih66 M37 x41 hJ38 (by omega) (by omega) (by omega)
        · skip
          refine w_cge_t dX9_begins_69 (t := 105) rfl (by have := zt_11; omega) ?_
          refine w_en dX9_begins_105 rfl ?_
          exact ⟨_, rfl, hJ, trivial⟩
  obtain ⟨ih26, ih66⟩ := main 115
  show ZW _ _ _ _ _ _ _ (0, [some (.ref 386), none], [], M0)
  refine w_lo dX9_begins_0 rfl rfl rfl rfl ?_
  refine w_gf dX9_begins_1 rfl hJ0.1.1 zs_386 (zr_386_49 hJ0.1) ?_
  refine w_ic dX9_begins_4 zi_0 ?_
  refine w_ic dX9_begins_5 zi_0 ?_
  refine w_isi dX9_begins_6 hJ0 zs_418 (by have := zt_0; omega) (by have := zt_0; omega) zu_418 (zbot _) (ztop _) (zIR_a (by omega) (by omega)) ?_
  intro M43 hJ44 f45 hn46
  refine w_lo dX9_begins_7 rfl rfl rfl rfl ?_
  refine w_gf dX9_begins_8 rfl hJ44.1.1 zs_386 (zr_386_62 hJ44.1) ?_
  refine w_ic dX9_begins_11 zi_0 ?_
  refine w_ic dX9_begins_12 zi_0 ?_
  refine w_isi dX9_begins_13 hJ44 zs_431 (by have := zt_0; omega) (by have := zt_0; omega) zu_431 (by have := zt_0; omega) (by have := zt_0; omega) (zIR_a (by omega) (by omega)) ?_
  intro M47 hJ48 f49 hn50
  refine w_lo dX9_begins_14 rfl rfl rfl rfl ?_
  refine w_ic dX9_begins_15 zi_0 ?_
  refine w_pfi dX9_begins_16 rfl hJ48 zs_386 (Nat.le_of_ble_eq_true rfl) zo_386_65 (by have := zt_0; omega) (by have := zt_0; omega) (zIR_s (zIR_k (by omega) (by omega))) rfl rfl rfl ?_
  intro M51 hJ52 f53 hn54
  refine w_lo dX9_begins_19 rfl rfl rfl rfl ?_
  refine w_ic dX9_begins_20 zi_0 ?_
  refine w_pfi dX9_begins_21 rfl hJ52 zs_386 (Nat.le_of_ble_eq_true rfl) zo_386_68 (by have := zt_0; omega) (by have := zt_0; omega) (zIR_s (zIR_s (zIR_k (by omega) (by omega)))) rfl rfl rfl ?_
  intro M55 hJ56 f57 hn58
  refine w_ic dX9_begins_24 zi_0 ?_
  refine w_lo (ml' := [some (.ref 386), some (.int 0)]) dX9_begins_25 rfl rfl rfl rfl ?_
  exact ih26 M55 0 hJ56 (by have := zt_0; omega) (by have := zt_0; omega) (by have := zt_0; omega)
set_option maxRecDepth 100000 in
theorem k_2343 {X : List Int32} {d N : Nat} {M0 : zM} (a0 : Int32) (hN : N ≤ 600) (hB0 : zB N M0) : ZV X (d + 1) 2343 [.ref 386, .int a0] M0 (zRI N [] M0 (-1) (1600) (fun _ _ => True)) := by
  have hJ0 : zJ N [] M0 M0 := zJ_refl hB0
  refine ZV.of (ini := false) rfl (Nat.le_of_ble_eq_true rfl) (by decide +kernel) ?_
  show ZW _ _ _ _ _ _ _ (0, [some (.ref 386), some (.int a0)], [], M0)
  refine w_lo dX9_fault_0 rfl rfl rfl rfl ?_
  rcases Int.decEq a0.toInt (0 : Int) with h1 | h1
  · skip
    refine w_ine_t dX9_fault_1 (t := 11) rfl (by omega) ?_
    refine w_lo dX9_fault_11 rfl rfl rfl rfl ?_
    refine w_ic dX9_fault_12 zi_1 ?_
    rcases Int.decEq a0.toInt (1 : Int) with h2 | h2
    · skip
      refine w_cne_t dX9_fault_13 (t := 23) rfl (by have := zt_1; omega) ?_
      refine w_ic dX9_fault_23 zi_m1 ?_
      refine w_en dX9_fault_24 rfl ?_
      exact ⟨_, _, rfl, (by have := zt_m1; omega), (by have := zt_m1; omega), hJ0, trivial⟩
    · skip
      refine w_cne_f dX9_fault_13 (t := 23) rfl (by have := zt_1; omega) ?_
      refine w_lo dX9_fault_16 rfl rfl rfl rfl ?_
      refine w_gfi dX9_fault_17 rfl hJ0.1 zs_386 (Nat.le_of_ble_eq_true rfl) zo_386_11 ?_
      intro x3 f4 h5 h6
      refine w_gt dX9_fault_20 (t := 24) rfl ?_
      refine w_eni dX9_fault_24 rfl rfl ?_
      exact ⟨_, _, rfl, (by omega), (by omega), hJ0, trivial⟩
  · skip
    refine w_ine_f dX9_fault_1 (t := 11) rfl (by omega) ?_
    refine w_lo dX9_fault_4 rfl rfl rfl rfl ?_
    refine w_gfi dX9_fault_5 rfl hJ0.1 zs_386 (Nat.le_of_ble_eq_true rfl) zo_386_10 ?_
    intro x7 f8 h9 h10
    refine w_gt dX9_fault_8 (t := 24) rfl ?_
    refine w_eni dX9_fault_24 rfl rfl ?_
    exact ⟨_, _, rfl, (by omega), (by omega), hJ0, trivial⟩
set_option maxRecDepth 100000 in
theorem k_2344 {X : List Int32} {d N : Nat} {M0 : zM} (a0 : Int32) (hN : N ≤ 600) (hB0 : zB N M0) : ZV X (d + 2) 2344 [.ref 386, .int a0] M0 (zRI N [] M0 (-2147483648) (2147483647) (fun _ _ => True)) := by
  have hJ0 : zJ N [] M0 M0 := zJ_refl hB0
  refine ZV.of (ini := false) rfl (Nat.le_of_ble_eq_true rfl) (by decide +kernel) ?_
  show ZW _ _ _ _ _ _ _ (0, [some (.ref 386), some (.int a0)], [], M0)
  refine w_lo dX9_status_0 rfl rfl rfl rfl ?_
  refine w_ic dX9_status_1 zi_0 ?_
  refine w_ic dX9_status_2 zi_5 ?_
  refine w_ss dX9_status_3 rfl rfl (As := [.int a0, .int 0, .int 5]) rfl rfl (Nat.le_of_ble_eq_true rfl) ?_
  refine ZV.of (ini := false) rfl (Nat.le_of_ble_eq_true rfl) (by decide +kernel) ?_
  show ZW _ _ _ _ _ _ _ (0, [some (.int a0), some (.int 0), some (.int 5)], [], M0)
  refine w_lo dX9_is_0 rfl rfl rfl rfl ?_
  refine w_lo dX9_is_1 rfl rfl rfl rfl ?_
  rcases zcut a0.toInt (0 : Int) with h1 | h1
  · skip
    refine w_clt_t dX9_is_2 (t := 14) rfl (by have := zt_0; omega) ?_
    refine w_ic dX9_is_14 zi_0 ?_
    refine w_en dX9_is_15 rfl ?_
    show ZW _ _ _ _ _ _ _ (6, [some (.ref 386), some (.int a0)], [.int 0], M0)
    refine w_ieq_t dX9_status_6 (t := 18) rfl (by have := zt_0; omega) ?_
    refine w_ic dX9_status_18 zi_m1 ?_
    refine w_en dX9_status_19 rfl ?_
    exact ⟨_, _, rfl, (zbot _), (ztop _), hJ0, trivial⟩
  · skip
    refine w_clt_f dX9_is_2 (t := 14) rfl (by have := zt_0; omega) ?_
    refine w_lo dX9_is_5 rfl rfl rfl rfl ?_
    refine w_lo dX9_is_6 rfl rfl rfl rfl ?_
    rcases zcut (5 : Int) a0.toInt with h2 | h2
    · skip
      refine w_cgt_t dX9_is_7 (t := 14) rfl (by have := zt_5; omega) ?_
      refine w_ic dX9_is_14 zi_0 ?_
      refine w_en dX9_is_15 rfl ?_
      show ZW _ _ _ _ _ _ _ (6, [some (.ref 386), some (.int a0)], [.int 0], M0)
      refine w_ieq_t dX9_status_6 (t := 18) rfl (by have := zt_0; omega) ?_
      refine w_ic dX9_status_18 zi_m1 ?_
      refine w_en dX9_status_19 rfl ?_
      exact ⟨_, _, rfl, (zbot _), (ztop _), hJ0, trivial⟩
    · skip
      refine w_cgt_f dX9_is_7 (t := 14) rfl (by have := zt_5; omega) ?_
      refine w_ic dX9_is_10 zi_1 ?_
      refine w_gt dX9_is_11 (t := 15) rfl ?_
      refine w_en dX9_is_15 rfl ?_
      show ZW _ _ _ _ _ _ _ (6, [some (.ref 386), some (.int a0)], [.int 1], M0)
      refine w_ieq_f dX9_status_6 (t := 18) rfl (by have := zt_1; omega) ?_
      refine w_lo dX9_status_9 rfl rfl rfl rfl ?_
      refine w_gf dX9_status_10 rfl hJ0.1.1 zs_386 (zr_386_46 hJ0.1) ?_
      refine w_lo dX9_status_13 rfl rfl rfl rfl ?_
      refine w_iai dX9_status_14 hJ0.1 zs_415 (by omega) (by omega) zu_415 ?_
      intro x6 f3 h4 h5
      refine w_gt dX9_status_15 (t := 19) rfl ?_
      refine w_eni dX9_status_19 rfl rfl ?_
      exact ⟨_, _, rfl, (zbot _), (ztop _), hJ0, trivial⟩
set_option maxRecDepth 100000 in
theorem k_2347 {X : List Int32} {d N : Nat} {M0 : zM} (a0 : Int32) (ha00 : (0 : Int) ≤ a0.toInt) (ha01 : a0.toInt ≤ 21) (a1 : Int32) (ha10 : (0 : Int) ≤ a1.toInt) (ha11 : a1.toInt ≤ 21) (hN : N ≤ 600) (hB0 : zB N M0) : ZV X (d + 1) 2347 [.ref 386, .int a0, .int a1] M0 (zRV N [(418, 433, 1000)] M0 (fun _ => True)) := by
  have hJ0 : zJ N [(418, 433, 1000)] M0 M0 := zJ_refl hB0
  refine ZV.of (ini := false) rfl (Nat.le_of_ble_eq_true rfl) (by decide +kernel) ?_
  have main : ∀ n : Nat,
      (∀ (M : zM) (v14_1 : Int32) (v14_2 : Int32) (v14_3 : Int32) (o14_4 : Option Value) (o14_5 : Option Value), zJ N [(418, 433, 1000)] M0 M → ((0 : Int) ≤ v14_1.toInt) → (v14_1.toInt ≤ 21) → ((0 : Int) ≤ v14_2.toInt) → (v14_2.toInt ≤ 21) → ((0 : Int) ≤ v14_3.toInt) → (v14_3.toInt ≤ 12) → 5 * (12 - v14_3.toInt) + 5078 < (n : Int) → ZW X (d + 0) 9 false none cX9_copies (zRV N [(418, 433, 1000)] M0 (fun _ => True)) (14, [some (.ref 386), some (.int v14_1), some (.int v14_2), some (.int v14_3), o14_4, o14_5], [], M)) ∧
      (∀ (M : zM) (v184_1 : Int32) (v184_2 : Int32) (v184_3 : Int32) (o184_4 : Option Value) (o184_5 : Option Value), zJ N [(418, 433, 1000)] M0 M → ((0 : Int) ≤ v184_1.toInt) → (v184_1.toInt ≤ 21) → ((0 : Int) ≤ v184_2.toInt) → (v184_2.toInt ≤ 21) → ((0 : Int) ≤ v184_3.toInt) → (v184_3.toInt ≤ 11) → 5 * (11 - v184_3.toInt) + 5012 < (n : Int) → ZW X (d + 0) 9 false none cX9_copies (zRV N [(418, 433, 1000)] M0 (fun _ => True)) (184, [some (.ref 386), some (.int v184_1), some (.int v184_2), some (.int v184_3), o184_4, o184_5], [], M)) ∧
      (∀ (M : zM) (v254_1 : Int32) (v254_2 : Int32) (v254_3 : Int32) (o254_4 : Option Value) (o254_5 : Option Value), zJ N [(418, 433, 1000)] M0 M → ((0 : Int) ≤ v254_1.toInt) → (v254_1.toInt ≤ 21) → ((0 : Int) ≤ v254_2.toInt) → (v254_2.toInt ≤ 21) → ((0 : Int) ≤ v254_3.toInt) → (v254_3.toInt ≤ 1000) → 5 * (1000 - v254_3.toInt) + 1 < (n : Int) → ZW X (d + 0) 9 false none cX9_copies (zRV N [(418, 433, 1000)] M0 (fun _ => True)) (254, [some (.ref 386), some (.int v254_1), some (.int v254_2), some (.int v254_3), o254_4, o254_5], [], M)) := by
    intro n
    induction n with
    | zero =>
      exact ⟨(fun M v14_1 v14_2 v14_3 o14_4 o14_5 hJ v14_10 v14_11 v14_20 v14_21 v14_30 v14_31 hn => absurd hn (by omega)), (fun M v184_1 v184_2 v184_3 o184_4 o184_5 hJ v184_10 v184_11 v184_20 v184_21 v184_30 v184_31 hn => absurd hn (by omega)), (fun M v254_1 v254_2 v254_3 o254_4 o254_5 hJ v254_10 v254_11 v254_20 v254_21 v254_30 v254_31 hn => absurd hn (by omega))⟩
    | succ n ih =>
      obtain ⟨ih14, ih184, ih254⟩ := ih
      refine ⟨?_, ?_, ?_⟩
      · intro M v14_1 v14_2 v14_3 o14_4 o14_5 hJ v14_10 v14_11 v14_20 v14_21 v14_30 v14_31 hn
        refine w_lo dX9_copies_14 rfl rfl rfl rfl ?_
        refine w_bi dX9_copies_15 (c := 12) (by decide) ?_
        rcases zcut v14_3.toInt (12 : Int) with h1 | h1
        · skip
          refine w_cge_f dX9_copies_17 (t := 182) rfl (by have := zt_12; omega) ?_
          refine w_bi dX9_copies_20 (c := 12) (by decide) ?_
          refine w_lo dX9_copies_22 rfl rfl rfl rfl ?_
          refine w_mulc dX9_copies_23 zt_12 (by have := zt_12; omega) ?_
          intro x2 h3
          have := zt_12
          refine w_lo dX9_copies_24 rfl rfl rfl rfl ?_
          refine w_add dX9_copies_25 (by omega) ?_
          intro x4 h5
          refine w_lo (ml' := [some (.ref 386), some (.int v14_1), some (.int v14_2), some (.int v14_3), some (.int x4), o14_5]) dX9_copies_26 rfl rfl rfl rfl ?_
          refine w_bi dX9_copies_28 (c := 12) (by decide) ?_
          refine w_lo dX9_copies_30 rfl rfl rfl rfl ?_
          refine w_mulc dX9_copies_31 zt_12 (by have := zt_12; omega) ?_
          intro x6 h7
          have := zt_12
          refine w_lo dX9_copies_32 rfl rfl rfl rfl ?_
          refine w_add dX9_copies_33 (by omega) ?_
          intro x8 h9
          refine w_lo (ml' := [some (.ref 386), some (.int v14_1), some (.int v14_2), some (.int v14_3), some (.int x4), some (.int x8)]) dX9_copies_34 rfl rfl rfl rfl ?_
          refine w_lo dX9_copies_36 rfl rfl rfl rfl ?_
          refine w_gf dX9_copies_37 rfl hJ.1.1 zs_386 (zr_386_50 hJ.1) ?_
          refine w_lo dX9_copies_40 rfl rfl rfl rfl ?_
          refine w_lo dX9_copies_42 rfl rfl rfl rfl ?_
          refine w_gf dX9_copies_43 rfl hJ.1.1 zs_386 (zr_386_50 hJ.1) ?_
          refine w_lo dX9_copies_46 rfl rfl rfl rfl ?_
          refine w_iai dX9_copies_48 hJ.1 zs_419 (by omega) (by omega) zu_419 ?_
          intro x13 f10 h11 h12
          refine w_isi dX9_copies_49 hJ zs_419 (by omega) (by omega) zu_419 (by omega) (by omega) (zIR_a (by omega) (by omega)) ?_
          intro M14 hJ15 f16 hn17
          refine w_lo dX9_copies_50 rfl rfl rfl rfl ?_
          refine w_gf dX9_copies_51 rfl hJ15.1.1 zs_386 (zr_386_51 hJ15.1) ?_
          refine w_lo dX9_copies_54 rfl rfl rfl rfl ?_
          refine w_lo dX9_copies_56 rfl rfl rfl rfl ?_
          refine w_gf dX9_copies_57 rfl hJ15.1.1 zs_386 (zr_386_51 hJ15.1) ?_
          refine w_lo dX9_copies_60 rfl rfl rfl rfl ?_
          refine w_iai dX9_copies_62 hJ15.1 zs_420 (by omega) (by omega) zu_420 ?_
          intro x21 f18 h19 h20
          refine w_isi dX9_copies_63 hJ15 zs_420 (by omega) (by omega) zu_420 (by omega) (by omega) (zIR_a (by omega) (by omega)) ?_
          intro M22 hJ23 f24 hn25
          refine w_lo dX9_copies_64 rfl rfl rfl rfl ?_
          refine w_gf dX9_copies_65 rfl hJ23.1.1 zs_386 (zr_386_52 hJ23.1) ?_
          refine w_lo dX9_copies_68 rfl rfl rfl rfl ?_
          refine w_lo dX9_copies_70 rfl rfl rfl rfl ?_
          refine w_gf dX9_copies_71 rfl hJ23.1.1 zs_386 (zr_386_52 hJ23.1) ?_
          refine w_lo dX9_copies_74 rfl rfl rfl rfl ?_
          refine w_iai dX9_copies_76 hJ23.1 zs_421 (by omega) (by omega) zu_421 ?_
          intro x29 f26 h27 h28
          refine w_isi dX9_copies_77 hJ23 zs_421 (by omega) (by omega) zu_421 (by omega) (by omega) (zIR_a (by omega) (by omega)) ?_
          intro M30 hJ31 f32 hn33
          refine w_lo dX9_copies_78 rfl rfl rfl rfl ?_
          refine w_gf dX9_copies_79 rfl hJ31.1.1 zs_386 (zr_386_53 hJ31.1) ?_
          refine w_lo dX9_copies_82 rfl rfl rfl rfl ?_
          refine w_lo dX9_copies_84 rfl rfl rfl rfl ?_
          refine w_gf dX9_copies_85 rfl hJ31.1.1 zs_386 (zr_386_53 hJ31.1) ?_
          refine w_lo dX9_copies_88 rfl rfl rfl rfl ?_
          refine w_iai dX9_copies_90 hJ31.1 zs_422 (by omega) (by omega) zu_422 ?_
          intro x37 f34 h35 h36
          refine w_isi dX9_copies_91 hJ31 zs_422 (by omega) (by omega) zu_422 (zbot _) (ztop _) (zIR_a (by omega) (by omega)) ?_
          intro M38 hJ39 f40 hn41
          refine w_lo dX9_copies_92 rfl rfl rfl rfl ?_
          refine w_gf dX9_copies_93 rfl hJ39.1.1 zs_386 (zr_386_54 hJ39.1) ?_
          refine w_lo dX9_copies_96 rfl rfl rfl rfl ?_
          refine w_lo dX9_copies_98 rfl rfl rfl rfl ?_
          refine w_gf dX9_copies_99 rfl hJ39.1.1 zs_386 (zr_386_54 hJ39.1) ?_
          refine w_lo dX9_copies_102 rfl rfl rfl rfl ?_
          refine w_iai dX9_copies_104 hJ39.1 zs_423 (by omega) (by omega) zu_423 ?_
          intro x45 f42 h43 h44
          refine w_isi dX9_copies_105 hJ39 zs_423 (by omega) (by omega) zu_423 (by omega) (by omega) (zIR_a (by omega) (by omega)) ?_
          intro M46 hJ47 f48 hn49
          refine w_lo dX9_copies_106 rfl rfl rfl rfl ?_
          refine w_gf dX9_copies_107 rfl hJ47.1.1 zs_386 (zr_386_55 hJ47.1) ?_
          refine w_lo dX9_copies_110 rfl rfl rfl rfl ?_
          refine w_lo dX9_copies_112 rfl rfl rfl rfl ?_
          refine w_gf dX9_copies_113 rfl hJ47.1.1 zs_386 (zr_386_55 hJ47.1) ?_
          refine w_lo dX9_copies_116 rfl rfl rfl rfl ?_
          refine w_iai dX9_copies_118 hJ47.1 zs_424 (by omega) (by omega) zu_424 ?_
          intro x53 f50 h51 h52
          refine w_isi dX9_copies_119 hJ47 zs_424 (by omega) (by omega) zu_424 (zbot _) (ztop _) (zIR_a (by omega) (by omega)) ?_
          intro M54 hJ55 f56 hn57
          refine w_lo dX9_copies_120 rfl rfl rfl rfl ?_
          refine w_gf dX9_copies_121 rfl hJ55.1.1 zs_386 (zr_386_56 hJ55.1) ?_
          refine w_lo dX9_copies_124 rfl rfl rfl rfl ?_
          refine w_lo dX9_copies_126 rfl rfl rfl rfl ?_
          refine w_gf dX9_copies_127 rfl hJ55.1.1 zs_386 (zr_386_56 hJ55.1) ?_
          refine w_lo dX9_copies_130 rfl rfl rfl rfl ?_
          refine w_iai dX9_copies_132 hJ55.1 zs_425 (by omega) (by omega) zu_425 ?_
          intro x61 f58 h59 h60
          refine w_isi dX9_copies_133 hJ55 zs_425 (by omega) (by omega) zu_425 (by omega) (by omega) (zIR_a (by omega) (by omega)) ?_
          intro M62 hJ63 f64 hn65
          refine w_lo dX9_copies_134 rfl rfl rfl rfl ?_
          refine w_gf dX9_copies_135 rfl hJ63.1.1 zs_386 (zr_386_57 hJ63.1) ?_
          refine w_lo dX9_copies_138 rfl rfl rfl rfl ?_
          refine w_lo dX9_copies_140 rfl rfl rfl rfl ?_
          refine w_gf dX9_copies_141 rfl hJ63.1.1 zs_386 (zr_386_57 hJ63.1) ?_
          refine w_lo dX9_copies_144 rfl rfl rfl rfl ?_
          refine w_iai dX9_copies_146 hJ63.1 zs_426 (by omega) (by omega) zu_426 ?_
          intro x69 f66 h67 h68
          refine w_isi dX9_copies_147 hJ63 zs_426 (by omega) (by omega) zu_426 (zbot _) (ztop _) (zIR_a (by omega) (by omega)) ?_
          intro M70 hJ71 f72 hn73
          refine w_lo dX9_copies_148 rfl rfl rfl rfl ?_
          refine w_gf dX9_copies_149 rfl hJ71.1.1 zs_386 (zr_386_58 hJ71.1) ?_
          refine w_lo dX9_copies_152 rfl rfl rfl rfl ?_
          refine w_lo dX9_copies_154 rfl rfl rfl rfl ?_
          refine w_gf dX9_copies_155 rfl hJ71.1.1 zs_386 (zr_386_58 hJ71.1) ?_
          refine w_lo dX9_copies_158 rfl rfl rfl rfl ?_
          refine w_iai dX9_copies_160 hJ71.1 zs_427 (by omega) (by omega) zu_427 ?_
          intro x77 f74 h75 h76
          refine w_isi dX9_copies_161 hJ71 zs_427 (by omega) (by omega) zu_427 (by omega) (ztop _) (zIR_a (by omega) (by omega)) ?_
          intro M78 hJ79 f80 hn81
          refine w_lo dX9_copies_162 rfl rfl rfl rfl ?_
          refine w_gf dX9_copies_163 rfl hJ79.1.1 zs_386 (zr_386_59 hJ79.1) ?_
          refine w_lo dX9_copies_166 rfl rfl rfl rfl ?_
          refine w_lo dX9_copies_168 rfl rfl rfl rfl ?_
          refine w_gf dX9_copies_169 rfl hJ79.1.1 zs_386 (zr_386_59 hJ79.1) ?_
          refine w_lo dX9_copies_172 rfl rfl rfl rfl ?_
          refine w_iai dX9_copies_174 hJ79.1 zs_428 (by omega) (by omega) zu_428 ?_
          intro x85 f82 h83 h84
          refine w_isi dX9_copies_175 hJ79 zs_428 (by omega) (by omega) zu_428 (zbot _) (ztop _) (zIR_a (by omega) (by omega)) ?_
          intro M86 hJ87 f88 hn89
          refine w_inc (kk := 3) dX9_copies_176 rfl (m := 1) (by decide) (by omega) ?_
          intro x90 h91
          refine ⟨_, rfl, ?_⟩
          show ZW _ _ _ _ _ _ _ (179, [some (.ref 386), some (.int v14_1), some (.int v14_2), some (.int x90), some (.int x4), some (.int x8)], [], M86)
          refine w_gt dX9_copies_179 (t := 14) rfl ?_
          exact ih14 M86 v14_1 v14_2 x90 (some (.int x4)) (some (.int x8)) hJ87 (by omega) (by omega) (by omega) (by omega) (by omega) (by omega) (by omega)
        · skip
          refine w_cge_t dX9_copies_17 (t := 182) rfl (by have := zt_12; omega) ?_
          refine w_ic dX9_copies_182 zi_0 ?_
          refine w_lo (ml' := [some (.ref 386), some (.int v14_1), some (.int v14_2), some (.int 0), o14_4, o14_5]) dX9_copies_183 rfl rfl rfl rfl ?_
          exact ih184 M v14_1 v14_2 0 o14_4 o14_5 hJ (by omega) (by omega) (by omega) (by omega) (by have := zt_0; omega) (by have := zt_0; omega) (by have := zt_0; omega)
      · intro M v184_1 v184_2 v184_3 o184_4 o184_5 hJ v184_10 v184_11 v184_20 v184_21 v184_30 v184_31 hn
        refine w_lo dX9_copies_184 rfl rfl rfl rfl ?_
        refine w_bi dX9_copies_185 (c := 11) (by decide) ?_
        rcases zcut v184_3.toInt (11 : Int) with h92 | h92
        · skip
          refine w_cge_f dX9_copies_187 (t := 240) rfl (by have := zt_11; omega) ?_
          refine w_lo dX9_copies_190 rfl rfl rfl rfl ?_
          refine w_gf dX9_copies_191 rfl hJ.1.1 zs_386 (zr_386_60 hJ.1) ?_
          refine w_bi dX9_copies_194 (c := 11) (by decide) ?_
          refine w_lo dX9_copies_196 rfl rfl rfl rfl ?_
          refine w_mulc dX9_copies_197 zt_11 (by have := zt_11; omega) ?_
          intro x93 h94
          have := zt_11
          refine w_lo dX9_copies_198 rfl rfl rfl rfl ?_
          refine w_add dX9_copies_199 (by omega) ?_
          intro x95 h96
          refine w_lo dX9_copies_200 rfl rfl rfl rfl ?_
          refine w_gf dX9_copies_201 rfl hJ.1.1 zs_386 (zr_386_60 hJ.1) ?_
          refine w_bi dX9_copies_204 (c := 11) (by decide) ?_
          refine w_lo dX9_copies_206 rfl rfl rfl rfl ?_
          refine w_mulc dX9_copies_207 zt_11 (by have := zt_11; omega) ?_
          intro x97 h98
          have := zt_11
          refine w_lo dX9_copies_208 rfl rfl rfl rfl ?_
          refine w_add dX9_copies_209 (by omega) ?_
          intro x99 h100
          refine w_iai dX9_copies_210 hJ.1 zs_429 (by omega) (by omega) zu_429 ?_
          intro x104 f101 h102 h103
          refine w_isi dX9_copies_211 hJ zs_429 (by omega) (by omega) zu_429 (by omega) (by omega) (zIR_a (by omega) (by omega)) ?_
          intro M105 hJ106 f107 hn108
          refine w_lo dX9_copies_212 rfl rfl rfl rfl ?_
          refine w_gf dX9_copies_213 rfl hJ106.1.1 zs_386 (zr_386_61 hJ106.1) ?_
          refine w_bi dX9_copies_216 (c := 11) (by decide) ?_
          refine w_lo dX9_copies_218 rfl rfl rfl rfl ?_
          refine w_mulc dX9_copies_219 zt_11 (by have := zt_11; omega) ?_
          intro x109 h110
          have := zt_11
          refine w_lo dX9_copies_220 rfl rfl rfl rfl ?_
          refine w_add dX9_copies_221 (by omega) ?_
          intro x111 h112
          refine w_lo dX9_copies_222 rfl rfl rfl rfl ?_
          refine w_gf dX9_copies_223 rfl hJ106.1.1 zs_386 (zr_386_61 hJ106.1) ?_
          refine w_bi dX9_copies_226 (c := 11) (by decide) ?_
          refine w_lo dX9_copies_228 rfl rfl rfl rfl ?_
          refine w_mulc dX9_copies_229 zt_11 (by have := zt_11; omega) ?_
          intro x113 h114
          have := zt_11
          refine w_lo dX9_copies_230 rfl rfl rfl rfl ?_
          refine w_add dX9_copies_231 (by omega) ?_
          intro x115 h116
          refine w_iai dX9_copies_232 hJ106.1 zs_430 (by omega) (by omega) zu_430 ?_
          intro x120 f117 h118 h119
          refine w_isi dX9_copies_233 hJ106 zs_430 (by omega) (by omega) zu_430 (zbot _) (ztop _) (zIR_a (by omega) (by omega)) ?_
          intro M121 hJ122 f123 hn124
          refine w_inc (kk := 3) dX9_copies_234 rfl (m := 1) (by decide) (by omega) ?_
          intro x125 h126
          refine ⟨_, rfl, ?_⟩
          show ZW _ _ _ _ _ _ _ (237, [some (.ref 386), some (.int v184_1), some (.int v184_2), some (.int x125), o184_4, o184_5], [], M121)
          refine w_gt dX9_copies_237 (t := 184) rfl ?_
          exact ih184 M121 v184_1 v184_2 x125 o184_4 o184_5 hJ122 (by omega) (by omega) (by omega) (by omega) (by omega) (by omega) (by omega)
        · skip
          refine w_cge_t dX9_copies_187 (t := 240) rfl (by have := zt_11; omega) ?_
          refine w_lo dX9_copies_240 rfl rfl rfl rfl ?_
          refine w_gf dX9_copies_241 rfl hJ.1.1 zs_386 (zr_386_62 hJ.1) ?_
          refine w_lo dX9_copies_244 rfl rfl rfl rfl ?_
          refine w_lo dX9_copies_245 rfl rfl rfl rfl ?_
          refine w_gf dX9_copies_246 rfl hJ.1.1 zs_386 (zr_386_62 hJ.1) ?_
          refine w_lo dX9_copies_249 rfl rfl rfl rfl ?_
          refine w_iai dX9_copies_250 hJ.1 zs_431 (by omega) (by omega) zu_431 ?_
          intro x130 f127 h128 h129
          refine w_isi dX9_copies_251 hJ zs_431 (by omega) (by omega) zu_431 (by omega) (by omega) (zIR_a (by omega) (by omega)) ?_
          intro M131 hJ132 f133 hn134
          refine w_ic dX9_copies_252 zi_0 ?_
          refine w_lo (ml' := [some (.ref 386), some (.int v184_1), some (.int v184_2), some (.int 0), o184_4, o184_5]) dX9_copies_253 rfl rfl rfl rfl ?_
          exact ih254 M131 v184_1 v184_2 0 o184_4 o184_5 hJ132 (by omega) (by omega) (by omega) (by omega) (by have := zt_0; omega) (by have := zt_0; omega) (by have := zt_0; omega)
      · intro M v254_1 v254_2 v254_3 o254_4 o254_5 hJ v254_10 v254_11 v254_20 v254_21 v254_30 v254_31 hn
        refine w_lo dX9_copies_254 rfl rfl rfl rfl ?_
        refine w_ic dX9_copies_255 zi_5 ?_
        refine w_lo dX9_copies_256 rfl rfl rfl rfl ?_
        refine w_gf dX9_copies_257 rfl hJ.1.1 zs_386 (zr_386_62 hJ.1) ?_
        refine w_lo dX9_copies_260 rfl rfl rfl rfl ?_
        refine w_iai dX9_copies_261 hJ.1 zs_431 (by omega) (by omega) zu_431 ?_
        intro x138 f135 h136 h137
        refine w_mulc dX9_copies_262 zt_5 (by have := zt_5; omega) ?_
        intro x139 h140
        have := zt_5
        rcases zcut v254_3.toInt x139.toInt with h141 | h141
        · skip
          refine w_cge_f dX9_copies_263 (t := 296) rfl (by omega) ?_
          refine w_lo dX9_copies_266 rfl rfl rfl rfl ?_
          refine w_gf dX9_copies_267 rfl hJ.1.1 zs_386 (zr_386_63 hJ.1) ?_
          refine w_si dX9_copies_270 (c := 1000) (by decide) ?_
          refine w_lo dX9_copies_273 rfl rfl rfl rfl ?_
          refine w_mulc dX9_copies_274 zt_1000 (by have := zt_1000; omega) ?_
          intro x142 h143
          have := zt_1000
          refine w_lo dX9_copies_275 rfl rfl rfl rfl ?_
          refine w_add dX9_copies_276 (by omega) ?_
          intro x144 h145
          refine w_lo dX9_copies_277 rfl rfl rfl rfl ?_
          refine w_gf dX9_copies_278 rfl hJ.1.1 zs_386 (zr_386_63 hJ.1) ?_
          refine w_si dX9_copies_281 (c := 1000) (by decide) ?_
          refine w_lo dX9_copies_284 rfl rfl rfl rfl ?_
          refine w_mulc dX9_copies_285 zt_1000 (by have := zt_1000; omega) ?_
          intro x146 h147
          have := zt_1000
          refine w_lo dX9_copies_286 rfl rfl rfl rfl ?_
          refine w_add dX9_copies_287 (by omega) ?_
          intro x148 h149
          refine w_iai dX9_copies_288 hJ.1 zs_432 (by omega) (by omega) zu_432 ?_
          intro x153 f150 h151 h152
          refine w_isi dX9_copies_289 hJ zs_432 (by omega) (by omega) zu_432 (zbot _) (ztop _) (zIR_a (by omega) (by omega)) ?_
          intro M154 hJ155 f156 hn157
          refine w_inc (kk := 3) dX9_copies_290 rfl (m := 1) (by decide) (by omega) ?_
          intro x158 h159
          refine ⟨_, rfl, ?_⟩
          show ZW _ _ _ _ _ _ _ (293, [some (.ref 386), some (.int v254_1), some (.int v254_2), some (.int x158), o254_4, o254_5], [], M154)
          refine w_gt dX9_copies_293 (t := 254) rfl ?_
          exact ih254 M154 v254_1 v254_2 x158 o254_4 o254_5 hJ155 (by omega) (by omega) (by omega) (by omega) (by omega) (by omega) (by omega)
        · skip
          refine w_cge_t dX9_copies_263 (t := 296) rfl (by omega) ?_
          refine w_en dX9_copies_296 rfl ?_
          exact ⟨_, rfl, hJ, trivial⟩
  obtain ⟨ih14, ih184, ih254⟩ := main 5153
  show ZW _ _ _ _ _ _ _ (0, [some (.ref 386), some (.int a0), some (.int a1), none, none, none], [], M0)
  refine w_lo dX9_copies_0 rfl rfl rfl rfl ?_
  refine w_gf dX9_copies_1 rfl hJ0.1.1 zs_386 (zr_386_49 hJ0.1) ?_
  refine w_lo dX9_copies_4 rfl rfl rfl rfl ?_
  refine w_lo dX9_copies_5 rfl rfl rfl rfl ?_
  refine w_gf dX9_copies_6 rfl hJ0.1.1 zs_386 (zr_386_49 hJ0.1) ?_
  refine w_lo dX9_copies_9 rfl rfl rfl rfl ?_
  refine w_iai dX9_copies_10 hJ0.1 zs_418 (by omega) (by omega) zu_418 ?_
  intro x163 f160 h161 h162
  refine w_isi dX9_copies_11 hJ0 zs_418 (by omega) (by omega) zu_418 (zbot _) (ztop _) (zIR_a (by omega) (by omega)) ?_
  intro M164 hJ165 f166 hn167
  refine w_ic dX9_copies_12 zi_0 ?_
  refine w_lo (ml' := [some (.ref 386), some (.int a0), some (.int a1), some (.int 0), none, none]) dX9_copies_13 rfl rfl rfl rfl ?_
  exact ih14 M164 a0 a1 0 none none hJ165 (by omega) (by omega) (by omega) (by omega) (by have := zt_0; omega) (by have := zt_0; omega) (by have := zt_0; omega)
set_option maxRecDepth 100000 in
theorem k_2345 {X : List Int32} {d N : Nat} {M0 : zM}  (hN : N ≤ 600) (hB0 : zB N M0) : ZV X (d + 2) 2345 [.ref 386] M0 (zRI N [(415, 416, 1000), (418, 433, 1000), (386, 387, 65)] M0 (0) (1) (fun _ _ => True)) := by
  have hJ0 : zJ N [(415, 416, 1000), (418, 433, 1000), (386, 387, 65)] M0 M0 := zJ_refl hB0
  refine ZV.of (ini := false) rfl (Nat.le_of_ble_eq_true rfl) (by decide +kernel) ?_
  show ZW _ _ _ _ _ _ _ (0, [some (.ref 386)], [], M0)
  refine w_lo dX9_undo_0 rfl rfl rfl rfl ?_
  refine w_gfi dX9_undo_1 rfl hJ0.1 zs_386 (Nat.le_of_ble_eq_true rfl) zo_386_65 ?_
  intro x1 f2 h3 h4
  rcases Int.decEq x1.toInt (0 : Int) with h5 | h5
  · skip
    refine w_ine_t dX9_undo_4 (t := 21) rfl (by omega) ?_
    refine w_lo dX9_undo_21 rfl rfl rfl rfl ?_
    refine w_pu dX9_undo_22 rfl rfl ?_
    refine w_gf dX9_undo_23 rfl hJ0.1.1 zs_386 f2 ?_
    refine w_ic dX9_undo_26 zi_1 ?_
    refine w_sub dX9_undo_27 (by have := zt_1; omega) ?_
    intro x6 h7
    have := zt_1
    refine w_pfi dX9_undo_28 rfl hJ0 zs_386 (Nat.le_of_ble_eq_true rfl) zo_386_65 (by omega) (by omega) (zIR_s (zIR_s (zIR_k (by omega) (by omega)))) rfl rfl rfl ?_
    intro M8 hJ9 f10 hn11
    refine w_lo dX9_undo_31 rfl rfl rfl rfl ?_
    refine w_ic dX9_undo_32 zi_0 ?_
    refine w_lo dX9_undo_33 rfl rfl rfl rfl ?_
    refine w_lo dX9_undo_34 rfl rfl rfl rfl ?_
    refine w_gf dX9_undo_35 rfl hJ9.1.1 zs_386 f10 ?_
    refine w_iv dX9_undo_38 rfl rfl (As := [.int x6]) rfl rfl hJ9.1.1 zs_386 (Nat.le_of_ble_eq_true rfl) ?_
    refine ZV.of (ini := false) rfl (Nat.le_of_ble_eq_true rfl) (by decide +kernel) ?_
    show ZW _ _ _ _ _ _ _ (0, [some (.ref 386), some (.int x6)], [], M8)
    refine w_ic dX9_ring_0 zi_2 ?_
    refine w_lo dX9_ring_1 rfl rfl rfl rfl ?_
    refine w_gfi dX9_ring_2 rfl hJ9.1 zs_386 (Nat.le_of_ble_eq_true rfl) zo_386_64 ?_
    intro x12 f13 h14 h15
    refine w_lo dX9_ring_5 rfl rfl rfl rfl ?_
    refine w_add dX9_ring_6 (by omega) ?_
    intro x16 h17
    refine w_bi dX9_ring_7 (c := 20) (by decide) ?_
    refine w_remP dX9_ring_9 (by omega) (by have := zt_20; omega) ?_
    intro x18 h19 h20 h21
    have := zt_20
    refine w_add dX9_ring_10 (by have := zt_2; omega) ?_
    intro x22 h23
    have := zt_2
    refine w_eni dX9_ring_11 rfl rfl ?_
    show ZW _ _ _ _ _ _ _ (41, [some (.ref 386)], [.int x22, .int 0, .ref 386], M8)
    refine w_iv dX9_undo_41 rfl rfl (As := [.int 0, .int x22]) rfl rfl hJ9.1.1 zs_386 (Nat.le_of_ble_eq_true rfl) ?_
    refine ZV.imp (k_2347 0 (by have := zt_0; omega) (by have := zt_0; omega) x22 (by omega) (by omega) hN hJ9.1) ?_
    rintro _ ⟨M24, rfl, hJ25, hq26⟩
    have hJ27 := zJ_trans hJ9 hJ25 (zSub_cons (fun _ _ h h' hk => zIR_s (zIR_a (by omega) (by omega))) zSub_nil)
    show ZW _ _ _ _ _ _ _ (44, [some (.ref 386)], [], M24)
    refine w_ic dX9_undo_44 zi_1 ?_
    refine w_en dX9_undo_45 rfl ?_
    exact ⟨_, _, rfl, (by have := zt_1; omega), (by have := zt_1; omega), hJ27, trivial⟩
  · skip
    refine w_ine_f dX9_undo_4 (t := 21) rfl (by omega) ?_
    refine w_lo dX9_undo_7 rfl rfl rfl rfl ?_
    refine w_ic dX9_undo_8 zi_4 ?_
    refine w_iv dX9_undo_9 rfl rfl (As := [.int 4]) rfl rfl hJ0.1.1 zs_386 (Nat.le_of_ble_eq_true rfl) ?_
    refine ZV.imp (k_2306 4 (by have := zt_4; omega) (by have := zt_4; omega) hN hJ0.1) ?_
    rintro _ ⟨x31, M28, rfl, h32, h33, hJ29, hq30⟩
    have hJ34 := zJ_trans hJ0 hJ29 (zSub_cons (fun _ _ h h' hk => zIR_a (by omega) (by omega)) zSub_nil)
    show ZW _ _ _ _ _ _ _ (12, [some (.ref 386)], [.int x31], M28)
    refine w_ilt_t dX9_undo_12 (t := 19) rfl (by omega) ?_
    refine w_ic dX9_undo_19 zi_0 ?_
    refine w_en dX9_undo_20 rfl ?_
    exact ⟨_, _, rfl, (by have := zt_0; omega), (by have := zt_0; omega), hJ34, trivial⟩
set_option maxRecDepth 100000 in
theorem k_2350 {X : List Int32} {d N : Nat} {M0 : zM}  (hN : N ≤ 600) (hB0 : zB N M0) : ZV X (d + 2) 2350 [.ref 386] M0 (zRI N [] M0 (-2147483648) (2147483647) (fun _ _ => True)) := by
  have hJ0 : zJ N [] M0 M0 := zJ_refl hB0
  refine ZV.of (ini := false) rfl (Nat.le_of_ble_eq_true rfl) (by decide +kernel) ?_
  have main : ∀ n : Nat,
      (∀ (M : zM) (v15_1 : Int32) (v15_2 : Int32), zJ N [] M0 M → ((-2147483648 : Int) ≤ v15_1.toInt) → (v15_1.toInt ≤ 2147483647) → ((0 : Int) ≤ v15_2.toInt) → (v15_2.toInt ≤ 11) → 3 * (11 - v15_2.toInt) + 1 < (n : Int) → ZW X (d + 1) 9 false (some .int) cX9_pieces (zRI N [] M0 (-2147483648) (2147483647) (fun _ _ => True)) (15, [some (.ref 386), some (.int v15_1), some (.int v15_2)], [], M)) := by
    intro n
    induction n with
    | zero =>
      exact (fun M v15_1 v15_2 hJ v15_10 v15_11 v15_20 v15_21 hn => absurd hn (by omega))
    | succ n ih =>
      have ih15 := ih
      · intro M v15_1 v15_2 hJ v15_10 v15_11 v15_20 v15_21 hn
        refine w_lo dX9_pieces_15 rfl rfl rfl rfl ?_
        refine w_lo dX9_pieces_16 rfl rfl rfl rfl ?_
        refine w_iv dX9_pieces_17 rfl rfl (As := []) rfl rfl hJ.1.1 zs_386 (Nat.le_of_ble_eq_true rfl) ?_
        refine ZV.of (ini := false) rfl (Nat.le_of_ble_eq_true rfl) (by decide +kernel) ?_
        show ZW _ _ _ _ _ _ _ (0, [some (.ref 386)], [], M)
        refine w_lo dX9_many_0 rfl rfl rfl rfl ?_
        refine w_gf dX9_many_1 rfl hJ.1.1 zs_386 (zr_386_13 hJ.1) ?_
        refine w_lo dX9_many_4 rfl rfl rfl rfl ?_
        refine w_gfi dX9_many_5 rfl hJ.1 zs_386 (Nat.le_of_ble_eq_true rfl) zo_386_12 ?_
        intro x1 f2 h3 h4
        refine w_iai dX9_many_8 hJ.1 zs_388 (by omega) (by omega) zu_388 ?_
        intro x8 f5 h6 h7
        refine w_eni dX9_many_9 rfl rfl ?_
        show ZW _ _ _ _ _ _ _ (20, [some (.ref 386), some (.int v15_1), some (.int v15_2)], [.int x8, .int v15_2], M)
        refine w_ic dX9_pieces_20 zi_1 ?_
        refine w_sub dX9_pieces_21 (by have := zt_1; omega) ?_
        intro x9 h10
        have := zt_1
        rcases zcut v15_2.toInt x9.toInt with h11 | h11
        · skip
          refine w_cge_f dX9_pieces_22 (t := 42) rfl (by omega) ?_
          refine w_lo dX9_pieces_25 rfl rfl rfl rfl ?_
          refine w_ic dX9_pieces_26 zi_1 ?_
          refine w_lo dX9_pieces_27 rfl rfl rfl rfl ?_
          refine w_gf dX9_pieces_28 rfl hJ.1.1 zs_386 (zr_386_60 hJ.1) ?_
          refine w_lo dX9_pieces_31 rfl rfl rfl rfl ?_
          refine w_iai dX9_pieces_32 hJ.1 zs_429 (by omega) (by omega) zu_429 ?_
          intro x15 f12 h13 h14
          refine w_sub dX9_pieces_33 (by have := zt_1; omega) ?_
          intro x16 h17
          have := zt_1
          refine w_puI dX9_pieces_34 rfl rfl ?_
          intro x18
          refine w_lo (ml' := [some (.ref 386), some (.int x18), some (.int v15_2)]) dX9_pieces_35 rfl rfl rfl rfl ?_
          refine w_inc (kk := 2) dX9_pieces_36 rfl (m := 1) (by decide) (by omega) ?_
          intro x19 h20
          refine ⟨_, rfl, ?_⟩
          show ZW _ _ _ _ _ _ _ (39, [some (.ref 386), some (.int x18), some (.int x19)], [], M)
          refine w_gt dX9_pieces_39 (t := 15) rfl ?_
          exact ih15 M x18 x19 hJ (zbot _) (ztop _) (by omega) (by omega) (by omega)
        · skip
          refine w_cge_t dX9_pieces_22 (t := 42) rfl (by omega) ?_
          refine w_lo dX9_pieces_42 rfl rfl rfl rfl ?_
          refine w_eni dX9_pieces_43 rfl rfl ?_
          exact ⟨_, _, rfl, (zbot _), (ztop _), hJ, trivial⟩
  have ih15 := main 45
  show ZW _ _ _ _ _ _ _ (0, [some (.ref 386), none, none], [], M0)
  refine w_lo dX9_pieces_0 rfl rfl rfl rfl ?_
  refine w_iv dX9_pieces_1 rfl rfl (As := []) rfl rfl hJ0.1.1 zs_386 (Nat.le_of_ble_eq_true rfl) ?_
  refine ZV.of (ini := false) rfl (Nat.le_of_ble_eq_true rfl) (by decide +kernel) ?_
  show ZW _ _ _ _ _ _ _ (0, [some (.ref 386)], [], M0)
  refine w_lo dX9_many_0 rfl rfl rfl rfl ?_
  refine w_gf dX9_many_1 rfl hJ0.1.1 zs_386 (zr_386_13 hJ0.1) ?_
  refine w_lo dX9_many_4 rfl rfl rfl rfl ?_
  refine w_gfi dX9_many_5 rfl hJ0.1 zs_386 (Nat.le_of_ble_eq_true rfl) zo_386_12 ?_
  intro x21 f22 h23 h24
  refine w_iai dX9_many_8 hJ0.1 zs_388 (by omega) (by omega) zu_388 ?_
  intro x28 f25 h26 h27
  refine w_eni dX9_many_9 rfl rfl ?_
  show ZW _ _ _ _ _ _ _ (4, [some (.ref 386), none, none], [.int x28], M0)
  rcases Int.decEq x28.toInt (0 : Int) with h29 | h29
  · skip
    refine w_ine_t dX9_pieces_4 (t := 11) rfl (by omega) ?_
    refine w_ic dX9_pieces_11 zi_1 ?_
    refine w_lo (ml' := [some (.ref 386), some (.int 1), none]) dX9_pieces_12 rfl rfl rfl rfl ?_
    refine w_ic dX9_pieces_13 zi_0 ?_
    refine w_lo (ml' := [some (.ref 386), some (.int 1), some (.int 0)]) dX9_pieces_14 rfl rfl rfl rfl ?_
    exact ih15 M0 1 0 hJ0 (zbot _) (ztop _) (by have := zt_0; omega) (by have := zt_0; omega) (by have := zt_1; have := zt_0; omega)
  · skip
    refine w_ine_f dX9_pieces_4 (t := 11) rfl (by omega) ?_
    refine w_ic dX9_pieces_7 zi_0 ?_
    refine w_gt dX9_pieces_8 (t := 12) rfl ?_
    refine w_lo (ml' := [some (.ref 386), some (.int 0), none]) dX9_pieces_12 rfl rfl rfl rfl ?_
    refine w_ic dX9_pieces_13 zi_0 ?_
    refine w_lo (ml' := [some (.ref 386), some (.int 0), some (.int 0)]) dX9_pieces_14 rfl rfl rfl rfl ?_
    exact ih15 M0 0 0 hJ0 (zbot _) (ztop _) (by have := zt_0; omega) (by have := zt_0; omega) (by have := zt_0; have := zt_0; omega)
set_option maxRecDepth 100000 in
theorem k_2348 {X : List Int32} {d N : Nat} {M0 : zM} (a0 : Int32) (hN : N ≤ 600) (hB0 : zB N M0) : ZV X (d + 3) 2348 [.ref 386, .int a0] M0 (zRI N [] M0 (-2147483648) (2147483647) (fun _ _ => True)) := by
  have hJ0 : zJ N [] M0 M0 := zJ_refl hB0
  refine ZV.of (ini := false) rfl (Nat.le_of_ble_eq_true rfl) (by decide +kernel) ?_
  have main : ∀ n : Nat,
      (∀ (M : zM) (u91_1 : Int32) (v91_2 : Int32) (v91_3 : Int32), zJ N [] M0 M → ((-2147483648 : Int) ≤ v91_2.toInt) → (v91_2.toInt ≤ 2147483647) → ((0 : Int) ≤ v91_3.toInt) → (v91_3.toInt ≤ 11) → 6 * (11 - v91_3.toInt) + 256 < (n : Int) → ZW X (d + 2) 9 false (some .int) cX9_has (zRI N [] M0 (-2147483648) (2147483647) (fun _ _ => True)) (91, [some (.ref 386), some (.int u91_1), some (.int v91_2), some (.int v91_3)], [], M)) ∧
      (∀ (M : zM) (u127_1 : Int32) (v127_2 : Int32) (v127_3 : Int32), zJ N [] M0 M → ((-2147483648 : Int) ≤ v127_2.toInt) → (v127_2.toInt ≤ 2147483647) → ((0 : Int) ≤ v127_3.toInt) → (v127_3.toInt ≤ 12) → 6 * (12 - v127_3.toInt) + 171 < (n : Int) → ZW X (d + 2) 9 false (some .int) cX9_has (zRI N [] M0 (-2147483648) (2147483647) (fun _ _ => True)) (127, [some (.ref 386), some (.int u127_1), some (.int v127_2), some (.int v127_3)], [], M)) ∧
      (∀ (M : zM) (u154_1 : Int32) (v154_2 : Int32) (v154_3 : Int32), zJ N [] M0 M → ((-2147483648 : Int) ≤ v154_2.toInt) → (v154_2.toInt ≤ 2147483647) → ((0 : Int) ≤ v154_3.toInt) → (v154_3.toInt ≤ 12) → 6 * (12 - v154_3.toInt) + 86 < (n : Int) → ZW X (d + 2) 9 false (some .int) cX9_has (zRI N [] M0 (-2147483648) (2147483647) (fun _ _ => True)) (154, [some (.ref 386), some (.int u154_1), some (.int v154_2), some (.int v154_3)], [], M)) ∧
      (∀ (M : zM) (u190_1 : Int32) (v190_2 : Int32) (v190_3 : Int32), zJ N [] M0 M → ((-2147483648 : Int) ≤ v190_2.toInt) → (v190_2.toInt ≤ 2147483647) → ((0 : Int) ≤ v190_3.toInt) → (v190_3.toInt ≤ 12) → 6 * (12 - v190_3.toInt) + 1 < (n : Int) → ZW X (d + 2) 9 false (some .int) cX9_has (zRI N [] M0 (-2147483648) (2147483647) (fun _ _ => True)) (190, [some (.ref 386), some (.int u190_1), some (.int v190_2), some (.int v190_3)], [], M)) := by
    intro n
    induction n with
    | zero =>
      exact ⟨(fun M u91_1 v91_2 v91_3 hJ v91_20 v91_21 v91_30 v91_31 hn => absurd hn (by omega)), (fun M u127_1 v127_2 v127_3 hJ v127_20 v127_21 v127_30 v127_31 hn => absurd hn (by omega)), (fun M u154_1 v154_2 v154_3 hJ v154_20 v154_21 v154_30 v154_31 hn => absurd hn (by omega)), (fun M u190_1 v190_2 v190_3 hJ v190_20 v190_21 v190_30 v190_31 hn => absurd hn (by omega))⟩
    | succ n ih =>
      obtain ⟨ih91, ih127, ih154, ih190⟩ := ih
      refine ⟨?_, ?_, ?_, ?_⟩
      · intro M u91_1 v91_2 v91_3 hJ v91_20 v91_21 v91_30 v91_31 hn
        refine w_lo dX9_has_91 rfl rfl rfl rfl ?_
        refine w_lo dX9_has_92 rfl rfl rfl rfl ?_
        refine w_iv dX9_has_93 rfl rfl (As := []) rfl rfl hJ.1.1 zs_386 (Nat.le_of_ble_eq_true rfl) ?_
        refine ZV.of (ini := false) rfl (Nat.le_of_ble_eq_true rfl) (by decide +kernel) ?_
        show ZW _ _ _ _ _ _ _ (0, [some (.ref 386)], [], M)
        refine w_lo dX9_many_0 rfl rfl rfl rfl ?_
        refine w_gf dX9_many_1 rfl hJ.1.1 zs_386 (zr_386_13 hJ.1) ?_
        refine w_lo dX9_many_4 rfl rfl rfl rfl ?_
        refine w_gfi dX9_many_5 rfl hJ.1 zs_386 (Nat.le_of_ble_eq_true rfl) zo_386_12 ?_
        intro x1 f2 h3 h4
        refine w_iai dX9_many_8 hJ.1 zs_388 (by omega) (by omega) zu_388 ?_
        intro x8 f5 h6 h7
        refine w_eni dX9_many_9 rfl rfl ?_
        show ZW _ _ _ _ _ _ _ (96, [some (.ref 386), some (.int u91_1), some (.int v91_2), some (.int v91_3)], [.int x8, .int v91_3], M)
        refine w_ic dX9_has_96 zi_1 ?_
        refine w_sub dX9_has_97 (by have := zt_1; omega) ?_
        intro x9 h10
        have := zt_1
        rcases zcut v91_3.toInt x9.toInt with h11 | h11
        · skip
          refine w_cge_f dX9_has_98 (t := 116) rfl (by omega) ?_
          refine w_lo dX9_has_101 rfl rfl rfl rfl ?_
          refine w_lo dX9_has_102 rfl rfl rfl rfl ?_
          refine w_gf dX9_has_103 rfl hJ.1.1 zs_386 (zr_386_60 hJ.1) ?_
          refine w_lo dX9_has_106 rfl rfl rfl rfl ?_
          refine w_iai dX9_has_107 hJ.1 zs_429 (by omega) (by omega) zu_429 ?_
          intro x15 f12 h13 h14
          refine w_puI dX9_has_108 rfl rfl ?_
          intro x16
          refine w_lo (ml' := [some (.ref 386), some (.int u91_1), some (.int x16), some (.int v91_3)]) dX9_has_109 rfl rfl rfl rfl ?_
          refine w_inc (kk := 3) dX9_has_110 rfl (m := 1) (by decide) (by omega) ?_
          intro x17 h18
          refine ⟨_, rfl, ?_⟩
          show ZW _ _ _ _ _ _ _ (113, [some (.ref 386), some (.int u91_1), some (.int x16), some (.int x17)], [], M)
          refine w_gt dX9_has_113 (t := 91) rfl ?_
          exact ih91 M u91_1 x16 x17 hJ (zbot _) (ztop _) (by omega) (by omega) (by omega)
        · skip
          refine w_cge_t dX9_has_98 (t := 116) rfl (by omega) ?_
          refine w_lo dX9_has_116 rfl rfl rfl rfl ?_
          refine w_eni dX9_has_117 rfl rfl ?_
          exact ⟨_, _, rfl, (zbot _), (ztop _), hJ, trivial⟩
      · intro M u127_1 v127_2 v127_3 hJ v127_20 v127_21 v127_30 v127_31 hn
        refine w_lo dX9_has_127 rfl rfl rfl rfl ?_
        refine w_lo dX9_has_128 rfl rfl rfl rfl ?_
        refine w_iv dX9_has_129 rfl rfl (As := []) rfl rfl hJ.1.1 zs_386 (Nat.le_of_ble_eq_true rfl) ?_
        refine ZV.of (ini := false) rfl (Nat.le_of_ble_eq_true rfl) (by decide +kernel) ?_
        show ZW _ _ _ _ _ _ _ (0, [some (.ref 386)], [], M)
        refine w_lo dX9_many_0 rfl rfl rfl rfl ?_
        refine w_gf dX9_many_1 rfl hJ.1.1 zs_386 (zr_386_13 hJ.1) ?_
        refine w_lo dX9_many_4 rfl rfl rfl rfl ?_
        refine w_gfi dX9_many_5 rfl hJ.1 zs_386 (Nat.le_of_ble_eq_true rfl) zo_386_12 ?_
        intro x19 f20 h21 h22
        refine w_iai dX9_many_8 hJ.1 zs_388 (by omega) (by omega) zu_388 ?_
        intro x26 f23 h24 h25
        refine w_eni dX9_many_9 rfl rfl ?_
        show ZW _ _ _ _ _ _ _ (132, [some (.ref 386), some (.int u127_1), some (.int v127_2), some (.int v127_3)], [.int x26, .int v127_3], M)
        rcases zcut v127_3.toInt x26.toInt with h27 | h27
        · skip
          refine w_cge_f dX9_has_132 (t := 150) rfl (by omega) ?_
          refine w_lo dX9_has_135 rfl rfl rfl rfl ?_
          refine w_lo dX9_has_136 rfl rfl rfl rfl ?_
          refine w_gf dX9_has_137 rfl hJ.1.1 zs_386 (zr_386_51 hJ.1) ?_
          refine w_lo dX9_has_140 rfl rfl rfl rfl ?_
          refine w_iai dX9_has_141 hJ.1 zs_420 (by omega) (by omega) zu_420 ?_
          intro x31 f28 h29 h30
          refine w_puI dX9_has_142 rfl rfl ?_
          intro x32
          refine w_lo (ml' := [some (.ref 386), some (.int u127_1), some (.int x32), some (.int v127_3)]) dX9_has_143 rfl rfl rfl rfl ?_
          refine w_inc (kk := 3) dX9_has_144 rfl (m := 1) (by decide) (by omega) ?_
          intro x33 h34
          refine ⟨_, rfl, ?_⟩
          show ZW _ _ _ _ _ _ _ (147, [some (.ref 386), some (.int u127_1), some (.int x32), some (.int x33)], [], M)
          refine w_gt dX9_has_147 (t := 127) rfl ?_
          exact ih127 M u127_1 x32 x33 hJ (zbot _) (ztop _) (by omega) (by omega) (by omega)
        · skip
          refine w_cge_t dX9_has_132 (t := 150) rfl (by omega) ?_
          refine w_lo dX9_has_150 rfl rfl rfl rfl ?_
          refine w_eni dX9_has_151 rfl rfl ?_
          exact ⟨_, _, rfl, (zbot _), (ztop _), hJ, trivial⟩
      · intro M u154_1 v154_2 v154_3 hJ v154_20 v154_21 v154_30 v154_31 hn
        refine w_lo dX9_has_154 rfl rfl rfl rfl ?_
        refine w_lo dX9_has_155 rfl rfl rfl rfl ?_
        refine w_iv dX9_has_156 rfl rfl (As := []) rfl rfl hJ.1.1 zs_386 (Nat.le_of_ble_eq_true rfl) ?_
        refine ZV.of (ini := false) rfl (Nat.le_of_ble_eq_true rfl) (by decide +kernel) ?_
        show ZW _ _ _ _ _ _ _ (0, [some (.ref 386)], [], M)
        refine w_lo dX9_many_0 rfl rfl rfl rfl ?_
        refine w_gf dX9_many_1 rfl hJ.1.1 zs_386 (zr_386_13 hJ.1) ?_
        refine w_lo dX9_many_4 rfl rfl rfl rfl ?_
        refine w_gfi dX9_many_5 rfl hJ.1 zs_386 (Nat.le_of_ble_eq_true rfl) zo_386_12 ?_
        intro x35 f36 h37 h38
        refine w_iai dX9_many_8 hJ.1 zs_388 (by omega) (by omega) zu_388 ?_
        intro x42 f39 h40 h41
        refine w_eni dX9_many_9 rfl rfl ?_
        show ZW _ _ _ _ _ _ _ (159, [some (.ref 386), some (.int u154_1), some (.int v154_2), some (.int v154_3)], [.int x42, .int v154_3], M)
        rcases zcut v154_3.toInt x42.toInt with h43 | h43
        · skip
          refine w_cge_f dX9_has_159 (t := 186) rfl (by omega) ?_
          refine w_lo dX9_has_162 rfl rfl rfl rfl ?_
          refine w_lo dX9_has_163 rfl rfl rfl rfl ?_
          refine w_gf dX9_has_164 rfl hJ.1.1 zs_386 (zr_386_52 hJ.1) ?_
          refine w_lo dX9_has_167 rfl rfl rfl rfl ?_
          refine w_iai dX9_has_168 hJ.1 zs_421 (by omega) (by omega) zu_421 ?_
          intro x47 f44 h45 h46
          refine w_ic dX9_has_169 zi_m1 ?_
          rcases Int.decEq x47.toInt (-1 : Int) with h48 | h48
          · skip
            refine w_ceq_f dX9_has_170 (t := 177) rfl (by have := zt_m1; omega) ?_
            refine w_ic dX9_has_173 zi_1 ?_
            refine w_gt dX9_has_174 (t := 178) rfl ?_
            refine w_puI dX9_has_178 rfl rfl ?_
            intro x49
            refine w_lo (ml' := [some (.ref 386), some (.int u154_1), some (.int x49), some (.int v154_3)]) dX9_has_179 rfl rfl rfl rfl ?_
            refine w_inc (kk := 3) dX9_has_180 rfl (m := 1) (by decide) (by omega) ?_
            intro x50 h51
            refine ⟨_, rfl, ?_⟩
            show ZW _ _ _ _ _ _ _ (183, [some (.ref 386), some (.int u154_1), some (.int x49), some (.int x50)], [], M)
            refine w_gt dX9_has_183 (t := 154) rfl ?_
            exact ih154 M u154_1 x49 x50 hJ (zbot _) (ztop _) (by omega) (by omega) (by omega)
          · skip
            refine w_ceq_t dX9_has_170 (t := 177) rfl (by have := zt_m1; omega) ?_
            refine w_ic dX9_has_177 zi_0 ?_
            refine w_add dX9_has_178 (by have := zt_0; omega) ?_
            intro x52 h53
            have := zt_0
            refine w_lo (ml' := [some (.ref 386), some (.int u154_1), some (.int x52), some (.int v154_3)]) dX9_has_179 rfl rfl rfl rfl ?_
            refine w_inc (kk := 3) dX9_has_180 rfl (m := 1) (by decide) (by omega) ?_
            intro x54 h55
            refine ⟨_, rfl, ?_⟩
            show ZW _ _ _ _ _ _ _ (183, [some (.ref 386), some (.int u154_1), some (.int x52), some (.int x54)], [], M)
            refine w_gt dX9_has_183 (t := 154) rfl ?_
            exact ih154 M u154_1 x52 x54 hJ (zbot _) (ztop _) (by omega) (by omega) (by omega)
        · skip
          refine w_cge_t dX9_has_159 (t := 186) rfl (by omega) ?_
          refine w_lo dX9_has_186 rfl rfl rfl rfl ?_
          refine w_eni dX9_has_187 rfl rfl ?_
          exact ⟨_, _, rfl, (zbot _), (ztop _), hJ, trivial⟩
      · intro M u190_1 v190_2 v190_3 hJ v190_20 v190_21 v190_30 v190_31 hn
        refine w_lo dX9_has_190 rfl rfl rfl rfl ?_
        refine w_lo dX9_has_191 rfl rfl rfl rfl ?_
        refine w_iv dX9_has_192 rfl rfl (As := []) rfl rfl hJ.1.1 zs_386 (Nat.le_of_ble_eq_true rfl) ?_
        refine ZV.of (ini := false) rfl (Nat.le_of_ble_eq_true rfl) (by decide +kernel) ?_
        show ZW _ _ _ _ _ _ _ (0, [some (.ref 386)], [], M)
        refine w_lo dX9_many_0 rfl rfl rfl rfl ?_
        refine w_gf dX9_many_1 rfl hJ.1.1 zs_386 (zr_386_13 hJ.1) ?_
        refine w_lo dX9_many_4 rfl rfl rfl rfl ?_
        refine w_gfi dX9_many_5 rfl hJ.1 zs_386 (Nat.le_of_ble_eq_true rfl) zo_386_12 ?_
        intro x56 f57 h58 h59
        refine w_iai dX9_many_8 hJ.1 zs_388 (by omega) (by omega) zu_388 ?_
        intro x63 f60 h61 h62
        refine w_eni dX9_many_9 rfl rfl ?_
        show ZW _ _ _ _ _ _ _ (195, [some (.ref 386), some (.int u190_1), some (.int v190_2), some (.int v190_3)], [.int x63, .int v190_3], M)
        rcases zcut v190_3.toInt x63.toInt with h64 | h64
        · skip
          refine w_cge_f dX9_has_195 (t := 222) rfl (by omega) ?_
          refine w_lo dX9_has_198 rfl rfl rfl rfl ?_
          refine w_lo dX9_has_199 rfl rfl rfl rfl ?_
          refine w_gf dX9_has_200 rfl hJ.1.1 zs_386 (zr_386_54 hJ.1) ?_
          refine w_lo dX9_has_203 rfl rfl rfl rfl ?_
          refine w_iai dX9_has_204 hJ.1 zs_423 (by omega) (by omega) zu_423 ?_
          intro x68 f65 h66 h67
          refine w_ic dX9_has_205 zi_m1 ?_
          rcases Int.decEq x68.toInt (-1 : Int) with h69 | h69
          · skip
            refine w_ceq_f dX9_has_206 (t := 213) rfl (by have := zt_m1; omega) ?_
            refine w_ic dX9_has_209 zi_1 ?_
            refine w_gt dX9_has_210 (t := 214) rfl ?_
            refine w_puI dX9_has_214 rfl rfl ?_
            intro x70
            refine w_lo (ml' := [some (.ref 386), some (.int u190_1), some (.int x70), some (.int v190_3)]) dX9_has_215 rfl rfl rfl rfl ?_
            refine w_inc (kk := 3) dX9_has_216 rfl (m := 1) (by decide) (by omega) ?_
            intro x71 h72
            refine ⟨_, rfl, ?_⟩
            show ZW _ _ _ _ _ _ _ (219, [some (.ref 386), some (.int u190_1), some (.int x70), some (.int x71)], [], M)
            refine w_gt dX9_has_219 (t := 190) rfl ?_
            exact ih190 M u190_1 x70 x71 hJ (zbot _) (ztop _) (by omega) (by omega) (by omega)
          · skip
            refine w_ceq_t dX9_has_206 (t := 213) rfl (by have := zt_m1; omega) ?_
            refine w_ic dX9_has_213 zi_0 ?_
            refine w_add dX9_has_214 (by have := zt_0; omega) ?_
            intro x73 h74
            have := zt_0
            refine w_lo (ml' := [some (.ref 386), some (.int u190_1), some (.int x73), some (.int v190_3)]) dX9_has_215 rfl rfl rfl rfl ?_
            refine w_inc (kk := 3) dX9_has_216 rfl (m := 1) (by decide) (by omega) ?_
            intro x75 h76
            refine ⟨_, rfl, ?_⟩
            show ZW _ _ _ _ _ _ _ (219, [some (.ref 386), some (.int u190_1), some (.int x73), some (.int x75)], [], M)
            refine w_gt dX9_has_219 (t := 190) rfl ?_
            exact ih190 M u190_1 x73 x75 hJ (zbot _) (ztop _) (by omega) (by omega) (by omega)
        · skip
          refine w_cge_t dX9_has_195 (t := 222) rfl (by omega) ?_
          refine w_lo dX9_has_222 rfl rfl rfl rfl ?_
          refine w_eni dX9_has_223 rfl rfl ?_
          exact ⟨_, _, rfl, (zbot _), (ztop _), hJ, trivial⟩
  obtain ⟨ih91, ih127, ih154, ih190⟩ := main 339
  show ZW _ _ _ _ _ _ _ (0, [some (.ref 386), some (.int a0), none, none], [], M0)
  refine w_ic dX9_has_0 zi_0 ?_
  refine w_lo (ml' := [some (.ref 386), some (.int a0), some (.int 0), none]) dX9_has_1 rfl rfl rfl rfl ?_
  refine w_lo dX9_has_2 rfl rfl rfl rfl ?_
  rcases Int.decEq a0.toInt (0 : Int) with h77 | h77
  rotate_left
  · skip
    refine w_ts dX9_has_3 (t := 64) (j := 0) h77 (by decide) ?_
    refine w_lo dX9_has_64 rfl rfl rfl rfl ?_
    refine w_iv dX9_has_65 rfl rfl (As := []) rfl rfl hJ0.1.1 zs_386 (Nat.le_of_ble_eq_true rfl) ?_
    refine ZV.of (ini := false) rfl (Nat.le_of_ble_eq_true rfl) (by decide +kernel) ?_
    show ZW _ _ _ _ _ _ _ (0, [some (.ref 386)], [], M0)
    refine w_lo dX9_many_0 rfl rfl rfl rfl ?_
    refine w_gf dX9_many_1 rfl hJ0.1.1 zs_386 (zr_386_13 hJ0.1) ?_
    refine w_lo dX9_many_4 rfl rfl rfl rfl ?_
    refine w_gfi dX9_many_5 rfl hJ0.1 zs_386 (Nat.le_of_ble_eq_true rfl) zo_386_12 ?_
    intro x78 f79 h80 h81
    refine w_iai dX9_many_8 hJ0.1 zs_388 (by omega) (by omega) zu_388 ?_
    intro x85 f82 h83 h84
    refine w_eni dX9_many_9 rfl rfl ?_
    show ZW _ _ _ _ _ _ _ (68, [some (.ref 386), some (.int a0), some (.int 0), none], [.int x85], M0)
    refine w_eni dX9_has_68 rfl rfl ?_
    exact ⟨_, _, rfl, (zbot _), (ztop _), hJ0, trivial⟩
  rcases Int.decEq a0.toInt (1 : Int) with h86 | h86
  rotate_left
  · skip
    refine w_ts dX9_has_3 (t := 69) (j := 1) h86 (by decide) ?_
    refine w_lo dX9_has_69 rfl rfl rfl rfl ?_
    refine w_gf dX9_has_70 rfl hJ0.1.1 zs_386 (zr_386_21 hJ0.1) ?_
    refine w_lo dX9_has_73 rfl rfl rfl rfl ?_
    refine w_gfi dX9_has_74 rfl hJ0.1 zs_386 (Nat.le_of_ble_eq_true rfl) zo_386_12 ?_
    intro x87 f88 h89 h90
    refine w_iai dX9_has_77 hJ0.1 zs_396 (by omega) (by omega) zu_396 ?_
    intro x94 f91 h92 h93
    refine w_eni dX9_has_78 rfl rfl ?_
    exact ⟨_, _, rfl, (zbot _), (ztop _), hJ0, trivial⟩
  rcases Int.decEq a0.toInt (2 : Int) with h95 | h95
  rotate_left
  · skip
    refine w_ts dX9_has_3 (t := 79) (j := 2) h95 (by decide) ?_
    refine w_lo dX9_has_79 rfl rfl rfl rfl ?_
    refine w_gf dX9_has_80 rfl hJ0.1.1 zs_386 (zr_386_27 hJ0.1) ?_
    refine w_lo dX9_has_83 rfl rfl rfl rfl ?_
    refine w_gfi dX9_has_84 rfl hJ0.1 zs_386 (Nat.le_of_ble_eq_true rfl) zo_386_12 ?_
    intro x96 f97 h98 h99
    refine w_iai dX9_has_87 hJ0.1 zs_402 (by omega) (by omega) zu_402 ?_
    intro x103 f100 h101 h102
    refine w_eni dX9_has_88 rfl rfl ?_
    exact ⟨_, _, rfl, (zbot _), (ztop _), hJ0, trivial⟩
  rcases Int.decEq a0.toInt (3 : Int) with h104 | h104
  rotate_left
  · skip
    refine w_ts dX9_has_3 (t := 89) (j := 3) h104 (by decide) ?_
    refine w_ic dX9_has_89 zi_0 ?_
    refine w_lo (ml' := [some (.ref 386), some (.int a0), some (.int 0), some (.int 0)]) dX9_has_90 rfl rfl rfl rfl ?_
    exact ih91 M0 a0 0 0 hJ0 (zbot _) (ztop _) (by have := zt_0; omega) (by have := zt_0; omega) (by have := zt_0; have := zt_0; omega)
  rcases Int.decEq a0.toInt (4 : Int) with h105 | h105
  rotate_left
  · skip
    refine w_ts dX9_has_3 (t := 118) (j := 4) h105 (by decide) ?_
    refine w_lo dX9_has_118 rfl rfl rfl rfl ?_
    refine w_gf dX9_has_119 rfl hJ0.1.1 zs_386 (zr_386_49 hJ0.1) ?_
    refine w_ic dX9_has_122 zi_0 ?_
    refine w_iai dX9_has_123 hJ0.1 zs_418 (by have := zt_0; omega) (by have := zt_0; omega) zu_418 ?_
    intro x109 f106 h107 h108
    refine w_eni dX9_has_124 rfl rfl ?_
    exact ⟨_, _, rfl, (zbot _), (ztop _), hJ0, trivial⟩
  rcases Int.decEq a0.toInt (5 : Int) with h110 | h110
  rotate_left
  · skip
    refine w_ts dX9_has_3 (t := 125) (j := 5) h110 (by decide) ?_
    refine w_ic dX9_has_125 zi_0 ?_
    refine w_lo (ml' := [some (.ref 386), some (.int a0), some (.int 0), some (.int 0)]) dX9_has_126 rfl rfl rfl rfl ?_
    exact ih127 M0 a0 0 0 hJ0 (zbot _) (ztop _) (by have := zt_0; omega) (by have := zt_0; omega) (by have := zt_0; have := zt_0; omega)
  rcases Int.decEq a0.toInt (6 : Int) with h111 | h111
  rotate_left
  · skip
    refine w_ts dX9_has_3 (t := 152) (j := 6) h111 (by decide) ?_
    refine w_ic dX9_has_152 zi_0 ?_
    refine w_lo (ml' := [some (.ref 386), some (.int a0), some (.int 0), some (.int 0)]) dX9_has_153 rfl rfl rfl rfl ?_
    exact ih154 M0 a0 0 0 hJ0 (zbot _) (ztop _) (by have := zt_0; omega) (by have := zt_0; omega) (by have := zt_0; have := zt_0; omega)
  rcases Int.decEq a0.toInt (7 : Int) with h112 | h112
  rotate_left
  · skip
    refine w_ts dX9_has_3 (t := 188) (j := 7) h112 (by decide) ?_
    refine w_ic dX9_has_188 zi_0 ?_
    refine w_lo (ml' := [some (.ref 386), some (.int a0), some (.int 0), some (.int 0)]) dX9_has_189 rfl rfl rfl rfl ?_
    exact ih190 M0 a0 0 0 hJ0 (zbot _) (ztop _) (by have := zt_0; omega) (by have := zt_0; omega) (by have := zt_0; have := zt_0; omega)
  rcases Int.decEq a0.toInt (8 : Int) with h113 | h113
  rotate_left
  · skip
    refine w_ts dX9_has_3 (t := 224) (j := 8) h113 (by decide) ?_
    refine w_lo dX9_has_224 rfl rfl rfl rfl ?_
    refine w_gf dX9_has_225 rfl hJ0.1.1 zs_386 (zr_386_62 hJ0.1) ?_
    refine w_ic dX9_has_228 zi_0 ?_
    refine w_iai dX9_has_229 hJ0.1 zs_431 (by have := zt_0; omega) (by have := zt_0; omega) zu_431 ?_
    intro x117 f114 h115 h116
    refine w_eni dX9_has_230 rfl rfl ?_
    exact ⟨_, _, rfl, (zbot _), (ztop _), hJ0, trivial⟩
  rcases Int.decEq a0.toInt (9 : Int) with h118 | h118
  rotate_left
  · skip
    refine w_ts dX9_has_3 (t := 231) (j := 9) h118 (by decide) ?_
    refine w_lo dX9_has_231 rfl rfl rfl rfl ?_
    refine w_gfi dX9_has_232 rfl hJ0.1 zs_386 (Nat.le_of_ble_eq_true rfl) zo_386_65 ?_
    intro x119 f120 h121 h122
    refine w_eni dX9_has_235 rfl rfl ?_
    exact ⟨_, _, rfl, (zbot _), (ztop _), hJ0, trivial⟩
  rcases Int.decEq a0.toInt (10 : Int) with h123 | h123
  rotate_left
  · skip
    refine w_ts dX9_has_3 (t := 236) (j := 10) h123 (by decide) ?_
    refine w_lo dX9_has_236 rfl rfl rfl rfl ?_
    refine w_iv dX9_has_237 rfl rfl (As := []) rfl rfl hJ0.1.1 zs_386 (Nat.le_of_ble_eq_true rfl) ?_
    refine ZV.imp (k_2350 hN hJ0.1) ?_
    rintro _ ⟨x127, M124, rfl, h128, h129, hJ125, hq126⟩
    have hJ130 := zJ_trans hJ0 hJ125 zSub_nil
    show ZW _ _ _ _ _ _ _ (240, [some (.ref 386), some (.int a0), some (.int 0), none], [.int x127], M124)
    refine w_eni dX9_has_240 rfl rfl ?_
    exact ⟨_, _, rfl, (zbot _), (ztop _), hJ130, trivial⟩
  rcases Int.decEq a0.toInt (11 : Int) with h131 | h131
  rotate_left
  · skip
    refine w_ts dX9_has_3 (t := 241) (j := 11) h131 (by decide) ?_
    refine w_lo dX9_has_241 rfl rfl rfl rfl ?_
    refine w_gfl dX9_has_242 rfl hJ0.1 zs_386 (Nat.le_of_ble_eq_true rfl) zo_386_66 ?_
    intro y135 f132 h133 h134
    refine w_l2i dX9_has_245 (by omega) ?_
    intro x136 h137
    skip
    refine w_eni dX9_has_246 rfl rfl ?_
    exact ⟨_, _, rfl, (zbot _), (ztop _), hJ0, trivial⟩
  refine w_td dX9_has_3 (t := 247) (by omega) rfl ?_
  refine w_ic dX9_has_247 zi_m1 ?_
  refine w_en dX9_has_248 rfl ?_
  exact ⟨_, _, rfl, (zbot _), (ztop _), hJ0, trivial⟩
set_option maxRecDepth 100000 in
theorem k_2351 {X : List Int32} {d N : Nat} {M0 : zM} (a0 : Int32) (a1 : Int32) (a2 : Int32) (hN : N ≤ 600) (hB0 : zB N M0) : ZV X (d + 2) 2351 [.ref 386, .int a0, .int a1, .int a2] M0 (zRI N [] M0 (-2147483648) (2147483647) (fun _ _ => True)) := by
  have hJ0 : zJ N [] M0 M0 := zJ_refl hB0
  refine ZV.of (ini := false) rfl (Nat.le_of_ble_eq_true rfl) (by decide +kernel) ?_
  have main : ∀ n : Nat,
      (∀ (M : zM) (o94_0 : Option Value) (u94_1 : Int32) (u94_2 : Int32) (v94_3 : Int32) (y94_4 : Int64) (v94_6 : Int32) (y94_7 : Int64), zJ N [] M0 M → ((0 : Int) ≤ v94_3.toInt) → (v94_3.toInt ≤ 5) → ((-9223372036854775808 : Int) ≤ y94_4.toInt) → (y94_4.toInt ≤ 9223372036854775807) → ((-2147483648 : Int) ≤ v94_6.toInt) → (v94_6.toInt ≤ 2147483647) → ((-9223372036854775808 : Int) ≤ y94_7.toInt) → (y94_7.toInt ≤ 9223372036854775807) → 3 * ((y94_7.toInt.toNat : Int)) + 1 < (n : Int) → ZW X (d + 1) 9 false (some .int) cX9_letter (zRI N [] M0 (-2147483648) (2147483647) (fun _ _ => True)) (94, [o94_0, some (.int u94_1), some (.int u94_2), some (.int v94_3), some (.long y94_4), none, some (.int v94_6), some (.long y94_7), none], [], M)) := by
    intro n
    induction n with
    | zero =>
      exact (fun M o94_0 u94_1 u94_2 v94_3 y94_4 v94_6 y94_7 hJ v94_30 v94_31 y94_40 y94_41 v94_60 v94_61 y94_70 y94_71 hn => absurd hn (by omega))
    | succ n ih =>
      have ih94 := ih
      · intro M o94_0 u94_1 u94_2 v94_3 y94_4 v94_6 y94_7 hJ v94_30 v94_31 y94_40 y94_41 v94_60 v94_61 y94_70 y94_71 hn
        refine w_lo dX9_letter_94 rfl rfl rfl rfl ?_
        refine w_lc dX9_letter_96 (c := (0 : Int64)) (by decide) ?_
        refine w_lcm dX9_letter_97 ?_
        intro x1 h2
        have := ztl_0
        rcases zcut (0 : Int) x1.toInt with h3 | h3
        · skip
          refine w_ile_f dX9_letter_98 (t := 114) rfl (by omega) ?_
          refine w_incT (kk := 6) dX9_letter_101 rfl ?_
          intro x4
          refine ⟨_, rfl, ?_⟩
          show ZW _ _ _ _ _ _ _ (104, [o94_0, some (.int u94_1), some (.int u94_2), some (.int v94_3), some (.long y94_4), none, some (.int x4), some (.long y94_7), none], [], M)
          refine w_lo dX9_letter_104 rfl rfl rfl rfl ?_
          refine w_bi dX9_letter_106 (c := 8) (by decide) ?_
          refine w_lshrP dX9_letter_108 (m := 8) (p := 256) (by decide) (by decide) (by omega) ?_
          intro y6 h7 h8
          refine w_lo (ml' := [o94_0, some (.int u94_1), some (.int u94_2), some (.int v94_3), some (.long y94_4), none, some (.int x4), some (.long y6), none]) dX9_letter_109 rfl rfl rfl rfl ?_
          refine w_gt dX9_letter_111 (t := 94) rfl ?_
          exact ih94 M o94_0 u94_1 u94_2 v94_3 y94_4 x4 y6 hJ (by omega) (by omega) (zlbot _) (zltop _) (zbot _) (ztop _) (zlbot _) (zltop _) (by omega)
        · skip
          refine w_ile_t dX9_letter_98 (t := 114) rfl (by omega) ?_
          refine w_lo dX9_letter_114 rfl rfl rfl rfl ?_
          refine w_lo dX9_letter_115 rfl rfl rfl rfl ?_
          rcases zcut v94_3.toInt v94_6.toInt with h9 | h9
          · skip
            refine w_clt_t dX9_letter_117 (t := 124) rfl (by omega) ?_
            refine w_lo dX9_letter_124 rfl rfl rfl rfl ?_
            refine w_bi dX9_letter_126 (c := 8) (by decide) ?_
            refine w_lo dX9_letter_128 rfl rfl rfl rfl ?_
            refine w_ic dX9_letter_130 zi_1 ?_
            refine w_sub dX9_letter_131 (by have := zt_1; omega) ?_
            intro x10 h11
            have := zt_1
            refine w_lo dX9_letter_132 rfl rfl rfl rfl ?_
            refine w_sub dX9_letter_133 (by omega) ?_
            intro x12 h13
            refine w_puI dX9_letter_134 rfl rfl ?_
            intro x14
            refine w_puL dX9_letter_135 rfl rfl ?_
            intro y15
            refine w_me (st' := [.long (255 : Int64), .long y15]) dX9_letter_136 rfl rfl rfl rfl rfl ?_
            refine w_puL dX9_letter_139 rfl rfl ?_
            intro y16
            refine w_puI dX9_letter_140 rfl rfl ?_
            intro x17
            refine w_bi dX9_letter_141 (c := 97) (by decide) ?_
            refine w_puI dX9_letter_143 rfl rfl ?_
            intro x18
            refine w_ic dX9_letter_144 zi_1 ?_
            refine w_puI dX9_letter_145 rfl rfl ?_
            intro x19
            refine w_eni dX9_letter_146 rfl rfl ?_
            exact ⟨_, _, rfl, (zbot _), (ztop _), hJ, trivial⟩
          · skip
            refine w_clt_f dX9_letter_117 (t := 124) rfl (by omega) ?_
            refine w_ic dX9_letter_120 zi_0 ?_
            refine w_gt dX9_letter_121 (t := 146) rfl ?_
            refine w_en dX9_letter_146 rfl ?_
            exact ⟨_, _, rfl, (zbot _), (ztop _), hJ, trivial⟩
  have ih94 := main 27670116110564327436
  show ZW _ _ _ _ _ _ _ (0, [some (.ref 386), some (.int a0), some (.int a1), some (.int a2), none, none, none, none, none], [], M0)
  refine w_lo dX9_letter_0 rfl rfl rfl rfl ?_
  refine w_ic dX9_letter_1 zi_0 ?_
  refine w_ic dX9_letter_2 zi_1 ?_
  refine w_ss dX9_letter_3 rfl rfl (As := [.int a0, .int 0, .int 1]) rfl rfl (Nat.le_of_ble_eq_true rfl) ?_
  refine ZV.of (ini := false) rfl (Nat.le_of_ble_eq_true rfl) (by decide +kernel) ?_
  show ZW _ _ _ _ _ _ _ (0, [some (.int a0), some (.int 0), some (.int 1)], [], M0)
  refine w_lo dX9_is_0 rfl rfl rfl rfl ?_
  refine w_lo dX9_is_1 rfl rfl rfl rfl ?_
  rcases zcut a0.toInt (0 : Int) with h20 | h20
  · skip
    refine w_clt_t dX9_is_2 (t := 14) rfl (by have := zt_0; omega) ?_
    refine w_ic dX9_is_14 zi_0 ?_
    refine w_en dX9_is_15 rfl ?_
    show ZW _ _ _ _ _ _ _ (6, [some (.ref 386), some (.int a0), some (.int a1), some (.int a2), none, none, none, none, none], [.int 0], M0)
    refine w_ieq_t dX9_letter_6 (t := 48) rfl (by have := zt_0; omega) ?_
    refine w_ic dX9_letter_48 zi_m1 ?_
    refine w_en dX9_letter_49 rfl ?_
    exact ⟨_, _, rfl, (zbot _), (ztop _), hJ0, trivial⟩
  · skip
    refine w_clt_f dX9_is_2 (t := 14) rfl (by have := zt_0; omega) ?_
    refine w_lo dX9_is_5 rfl rfl rfl rfl ?_
    refine w_lo dX9_is_6 rfl rfl rfl rfl ?_
    rcases zcut (1 : Int) a0.toInt with h21 | h21
    · skip
      refine w_cgt_t dX9_is_7 (t := 14) rfl (by have := zt_1; omega) ?_
      refine w_ic dX9_is_14 zi_0 ?_
      refine w_en dX9_is_15 rfl ?_
      show ZW _ _ _ _ _ _ _ (6, [some (.ref 386), some (.int a0), some (.int a1), some (.int a2), none, none, none, none, none], [.int 0], M0)
      refine w_ieq_t dX9_letter_6 (t := 48) rfl (by have := zt_0; omega) ?_
      refine w_ic dX9_letter_48 zi_m1 ?_
      refine w_en dX9_letter_49 rfl ?_
      exact ⟨_, _, rfl, (zbot _), (ztop _), hJ0, trivial⟩
    · skip
      refine w_cgt_f dX9_is_7 (t := 14) rfl (by have := zt_1; omega) ?_
      refine w_ic dX9_is_10 zi_1 ?_
      refine w_gt dX9_is_11 (t := 15) rfl ?_
      refine w_en dX9_is_15 rfl ?_
      show ZW _ _ _ _ _ _ _ (6, [some (.ref 386), some (.int a0), some (.int a1), some (.int a2), none, none, none, none, none], [.int 1], M0)
      refine w_ieq_f dX9_letter_6 (t := 48) rfl (by have := zt_1; omega) ?_
      refine w_lo dX9_letter_9 rfl rfl rfl rfl ?_
      refine w_ic dX9_letter_10 zi_0 ?_
      refine w_lo dX9_letter_11 rfl rfl rfl rfl ?_
      rcases Int.decEq a0.toInt (0 : Int) with h22 | h22
      · skip
        refine w_ine_t dX9_letter_12 (t := 22) rfl (by omega) ?_
        refine w_lo dX9_letter_22 rfl rfl rfl rfl ?_
        refine w_gf dX9_letter_23 rfl hJ0.1.1 zs_386 (zr_386_21 hJ0.1) ?_
        refine w_lo dX9_letter_26 rfl rfl rfl rfl ?_
        refine w_gfi dX9_letter_27 rfl hJ0.1 zs_386 (Nat.le_of_ble_eq_true rfl) zo_386_12 ?_
        intro x23 f24 h25 h26
        refine w_iai dX9_letter_30 hJ0.1 zs_396 (by omega) (by omega) zu_396 ?_
        intro x30 f27 h28 h29
        refine w_ic dX9_letter_31 zi_1 ?_
        refine w_sub dX9_letter_32 (by have := zt_1; omega) ?_
        intro x31 h32
        have := zt_1
        refine w_ss dX9_letter_33 rfl rfl (As := [.int a1, .int 0, .int x31]) rfl rfl (Nat.le_of_ble_eq_true rfl) ?_
        refine ZV.of (ini := false) rfl (Nat.le_of_ble_eq_true rfl) (by decide +kernel) ?_
        show ZW _ _ _ _ _ _ _ (0, [some (.int a1), some (.int 0), some (.int x31)], [], M0)
        refine w_lo dX9_is_0 rfl rfl rfl rfl ?_
        refine w_lo dX9_is_1 rfl rfl rfl rfl ?_
        rcases zcut a1.toInt (0 : Int) with h33 | h33
        · skip
          refine w_clt_t dX9_is_2 (t := 14) rfl (by have := zt_0; omega) ?_
          refine w_ic dX9_is_14 zi_0 ?_
          refine w_en dX9_is_15 rfl ?_
          show ZW _ _ _ _ _ _ _ (36, [some (.ref 386), some (.int a0), some (.int a1), some (.int a2), none, none, none, none, none], [.int 0], M0)
          refine w_ieq_t dX9_letter_36 (t := 48) rfl (by have := zt_0; omega) ?_
          refine w_ic dX9_letter_48 zi_m1 ?_
          refine w_en dX9_letter_49 rfl ?_
          exact ⟨_, _, rfl, (zbot _), (ztop _), hJ0, trivial⟩
        · skip
          refine w_clt_f dX9_is_2 (t := 14) rfl (by have := zt_0; omega) ?_
          refine w_lo dX9_is_5 rfl rfl rfl rfl ?_
          refine w_lo dX9_is_6 rfl rfl rfl rfl ?_
          rcases zcut x31.toInt a1.toInt with h34 | h34
          · skip
            refine w_cgt_t dX9_is_7 (t := 14) rfl (by omega) ?_
            refine w_ic dX9_is_14 zi_0 ?_
            refine w_en dX9_is_15 rfl ?_
            show ZW _ _ _ _ _ _ _ (36, [some (.ref 386), some (.int a0), some (.int a1), some (.int a2), none, none, none, none, none], [.int 0], M0)
            refine w_ieq_t dX9_letter_36 (t := 48) rfl (by have := zt_0; omega) ?_
            refine w_ic dX9_letter_48 zi_m1 ?_
            refine w_en dX9_letter_49 rfl ?_
            exact ⟨_, _, rfl, (zbot _), (ztop _), hJ0, trivial⟩
          · skip
            refine w_cgt_f dX9_is_7 (t := 14) rfl (by omega) ?_
            refine w_ic dX9_is_10 zi_1 ?_
            refine w_gt dX9_is_11 (t := 15) rfl ?_
            refine w_en dX9_is_15 rfl ?_
            show ZW _ _ _ _ _ _ _ (36, [some (.ref 386), some (.int a0), some (.int a1), some (.int a2), none, none, none, none, none], [.int 1], M0)
            refine w_ieq_f dX9_letter_36 (t := 48) rfl (by have := zt_1; omega) ?_
            refine w_lo dX9_letter_39 rfl rfl rfl rfl ?_
            refine w_ic dX9_letter_40 zi_0 ?_
            refine w_ic dX9_letter_41 zi_5 ?_
            refine w_ss dX9_letter_42 rfl rfl (As := [.int a2, .int 0, .int 5]) rfl rfl (Nat.le_of_ble_eq_true rfl) ?_
            refine ZV.of (ini := false) rfl (Nat.le_of_ble_eq_true rfl) (by decide +kernel) ?_
            show ZW _ _ _ _ _ _ _ (0, [some (.int a2), some (.int 0), some (.int 5)], [], M0)
            refine w_lo dX9_is_0 rfl rfl rfl rfl ?_
            refine w_lo dX9_is_1 rfl rfl rfl rfl ?_
            rcases zcut a2.toInt (0 : Int) with h35 | h35
            · skip
              refine w_clt_t dX9_is_2 (t := 14) rfl (by have := zt_0; omega) ?_
              refine w_ic dX9_is_14 zi_0 ?_
              refine w_en dX9_is_15 rfl ?_
              show ZW _ _ _ _ _ _ _ (45, [some (.ref 386), some (.int a0), some (.int a1), some (.int a2), none, none, none, none, none], [.int 0], M0)
              refine w_ine_f dX9_letter_45 (t := 50) rfl (by have := zt_0; omega) ?_
              refine w_ic dX9_letter_48 zi_m1 ?_
              refine w_en dX9_letter_49 rfl ?_
              exact ⟨_, _, rfl, (zbot _), (ztop _), hJ0, trivial⟩
            · skip
              refine w_clt_f dX9_is_2 (t := 14) rfl (by have := zt_0; omega) ?_
              refine w_lo dX9_is_5 rfl rfl rfl rfl ?_
              refine w_lo dX9_is_6 rfl rfl rfl rfl ?_
              rcases zcut (5 : Int) a2.toInt with h36 | h36
              · skip
                refine w_cgt_t dX9_is_7 (t := 14) rfl (by have := zt_5; omega) ?_
                refine w_ic dX9_is_14 zi_0 ?_
                refine w_en dX9_is_15 rfl ?_
                show ZW _ _ _ _ _ _ _ (45, [some (.ref 386), some (.int a0), some (.int a1), some (.int a2), none, none, none, none, none], [.int 0], M0)
                refine w_ine_f dX9_letter_45 (t := 50) rfl (by have := zt_0; omega) ?_
                refine w_ic dX9_letter_48 zi_m1 ?_
                refine w_en dX9_letter_49 rfl ?_
                exact ⟨_, _, rfl, (zbot _), (ztop _), hJ0, trivial⟩
              · skip
                refine w_cgt_f dX9_is_7 (t := 14) rfl (by have := zt_5; omega) ?_
                refine w_ic dX9_is_10 zi_1 ?_
                refine w_gt dX9_is_11 (t := 15) rfl ?_
                refine w_en dX9_is_15 rfl ?_
                show ZW _ _ _ _ _ _ _ (45, [some (.ref 386), some (.int a0), some (.int a1), some (.int a2), none, none, none, none, none], [.int 1], M0)
                refine w_ine_t dX9_letter_45 (t := 50) rfl (by have := zt_1; omega) ?_
                refine w_lo dX9_letter_50 rfl rfl rfl rfl ?_
                refine w_ine_t dX9_letter_51 (t := 71) rfl (by omega) ?_
                refine w_lo dX9_letter_71 rfl rfl rfl rfl ?_
                refine w_gf dX9_letter_72 rfl hJ0.1.1 zs_386 (zr_386_22 hJ0.1) ?_
                refine w_bi dX9_letter_75 (c := 6) (by decide) ?_
                refine w_lo dX9_letter_77 rfl rfl rfl rfl ?_
                refine w_gf dX9_letter_78 rfl hJ0.1.1 zs_386 f24 ?_
                refine w_mulc dX9_letter_81 zt_6 (by have := zt_6; omega) ?_
                intro x37 h38
                have := zt_6
                refine w_lo dX9_letter_82 rfl rfl rfl rfl ?_
                refine w_add dX9_letter_83 (by omega) ?_
                intro x39 h40
                refine w_lal dX9_letter_84 hJ0.1 zs_397 (by omega) (by omega) zu_397 ?_
                intro y44 f41
                refine w_lo (ml' := [some (.ref 386), some (.int a0), some (.int a1), some (.int a2), some (.long y44), none, none, none, none]) dX9_letter_85 rfl rfl rfl rfl ?_
                refine w_ic dX9_letter_87 zi_0 ?_
                refine w_lo (ml' := [some (.ref 386), some (.int a0), some (.int a1), some (.int a2), some (.long y44), none, some (.int 0), none, none]) dX9_letter_88 rfl rfl rfl rfl ?_
                refine w_lo dX9_letter_90 rfl rfl rfl rfl ?_
                refine w_lo (ml' := [some (.ref 386), some (.int a0), some (.int a1), some (.int a2), some (.long y44), none, some (.int 0), some (.long y44), none]) dX9_letter_92 rfl rfl rfl rfl ?_
                exact ih94 M0 (some (.ref 386)) a0 a1 a2 y44 0 y44 hJ0 (by omega) (by omega) (zlbot _) (zltop _) (zbot _) (ztop _) (zlbot _) (zltop _) (by have := zt_0; omega)
      · skip
        refine w_ine_f dX9_letter_12 (t := 22) rfl (by omega) ?_
        refine w_lo dX9_letter_15 rfl rfl rfl rfl ?_
        refine w_iv dX9_letter_16 rfl rfl (As := []) rfl rfl hJ0.1.1 zs_386 (Nat.le_of_ble_eq_true rfl) ?_
        refine ZV.of (ini := false) rfl (Nat.le_of_ble_eq_true rfl) (by decide +kernel) ?_
        show ZW _ _ _ _ _ _ _ (0, [some (.ref 386)], [], M0)
        refine w_lo dX9_many_0 rfl rfl rfl rfl ?_
        refine w_gf dX9_many_1 rfl hJ0.1.1 zs_386 (zr_386_13 hJ0.1) ?_
        refine w_lo dX9_many_4 rfl rfl rfl rfl ?_
        refine w_gfi dX9_many_5 rfl hJ0.1 zs_386 (Nat.le_of_ble_eq_true rfl) zo_386_12 ?_
        intro x45 f46 h47 h48
        refine w_iai dX9_many_8 hJ0.1 zs_388 (by omega) (by omega) zu_388 ?_
        intro x52 f49 h50 h51
        refine w_eni dX9_many_9 rfl rfl ?_
        show ZW _ _ _ _ _ _ _ (19, [some (.ref 386), some (.int a0), some (.int a1), some (.int a2), none, none, none, none, none], [.int x52, .int 0, .int a1], M0)
        refine w_gt dX9_letter_19 (t := 31) rfl ?_
        refine w_ic dX9_letter_31 zi_1 ?_
        refine w_sub dX9_letter_32 (by have := zt_1; omega) ?_
        intro x53 h54
        have := zt_1
        refine w_ss dX9_letter_33 rfl rfl (As := [.int a1, .int 0, .int x53]) rfl rfl (Nat.le_of_ble_eq_true rfl) ?_
        refine ZV.of (ini := false) rfl (Nat.le_of_ble_eq_true rfl) (by decide +kernel) ?_
        show ZW _ _ _ _ _ _ _ (0, [some (.int a1), some (.int 0), some (.int x53)], [], M0)
        refine w_lo dX9_is_0 rfl rfl rfl rfl ?_
        refine w_lo dX9_is_1 rfl rfl rfl rfl ?_
        rcases zcut a1.toInt (0 : Int) with h55 | h55
        · skip
          refine w_clt_t dX9_is_2 (t := 14) rfl (by have := zt_0; omega) ?_
          refine w_ic dX9_is_14 zi_0 ?_
          refine w_en dX9_is_15 rfl ?_
          show ZW _ _ _ _ _ _ _ (36, [some (.ref 386), some (.int a0), some (.int a1), some (.int a2), none, none, none, none, none], [.int 0], M0)
          refine w_ieq_t dX9_letter_36 (t := 48) rfl (by have := zt_0; omega) ?_
          refine w_ic dX9_letter_48 zi_m1 ?_
          refine w_en dX9_letter_49 rfl ?_
          exact ⟨_, _, rfl, (zbot _), (ztop _), hJ0, trivial⟩
        · skip
          refine w_clt_f dX9_is_2 (t := 14) rfl (by have := zt_0; omega) ?_
          refine w_lo dX9_is_5 rfl rfl rfl rfl ?_
          refine w_lo dX9_is_6 rfl rfl rfl rfl ?_
          rcases zcut x53.toInt a1.toInt with h56 | h56
          · skip
            refine w_cgt_t dX9_is_7 (t := 14) rfl (by omega) ?_
            refine w_ic dX9_is_14 zi_0 ?_
            refine w_en dX9_is_15 rfl ?_
            show ZW _ _ _ _ _ _ _ (36, [some (.ref 386), some (.int a0), some (.int a1), some (.int a2), none, none, none, none, none], [.int 0], M0)
            refine w_ieq_t dX9_letter_36 (t := 48) rfl (by have := zt_0; omega) ?_
            refine w_ic dX9_letter_48 zi_m1 ?_
            refine w_en dX9_letter_49 rfl ?_
            exact ⟨_, _, rfl, (zbot _), (ztop _), hJ0, trivial⟩
          · skip
            refine w_cgt_f dX9_is_7 (t := 14) rfl (by omega) ?_
            refine w_ic dX9_is_10 zi_1 ?_
            refine w_gt dX9_is_11 (t := 15) rfl ?_
            refine w_en dX9_is_15 rfl ?_
            show ZW _ _ _ _ _ _ _ (36, [some (.ref 386), some (.int a0), some (.int a1), some (.int a2), none, none, none, none, none], [.int 1], M0)
            refine w_ieq_f dX9_letter_36 (t := 48) rfl (by have := zt_1; omega) ?_
            refine w_lo dX9_letter_39 rfl rfl rfl rfl ?_
            refine w_ic dX9_letter_40 zi_0 ?_
            refine w_ic dX9_letter_41 zi_5 ?_
            refine w_ss dX9_letter_42 rfl rfl (As := [.int a2, .int 0, .int 5]) rfl rfl (Nat.le_of_ble_eq_true rfl) ?_
            refine ZV.of (ini := false) rfl (Nat.le_of_ble_eq_true rfl) (by decide +kernel) ?_
            show ZW _ _ _ _ _ _ _ (0, [some (.int a2), some (.int 0), some (.int 5)], [], M0)
            refine w_lo dX9_is_0 rfl rfl rfl rfl ?_
            refine w_lo dX9_is_1 rfl rfl rfl rfl ?_
            rcases zcut a2.toInt (0 : Int) with h57 | h57
            · skip
              refine w_clt_t dX9_is_2 (t := 14) rfl (by have := zt_0; omega) ?_
              refine w_ic dX9_is_14 zi_0 ?_
              refine w_en dX9_is_15 rfl ?_
              show ZW _ _ _ _ _ _ _ (45, [some (.ref 386), some (.int a0), some (.int a1), some (.int a2), none, none, none, none, none], [.int 0], M0)
              refine w_ine_f dX9_letter_45 (t := 50) rfl (by have := zt_0; omega) ?_
              refine w_ic dX9_letter_48 zi_m1 ?_
              refine w_en dX9_letter_49 rfl ?_
              exact ⟨_, _, rfl, (zbot _), (ztop _), hJ0, trivial⟩
            · skip
              refine w_clt_f dX9_is_2 (t := 14) rfl (by have := zt_0; omega) ?_
              refine w_lo dX9_is_5 rfl rfl rfl rfl ?_
              refine w_lo dX9_is_6 rfl rfl rfl rfl ?_
              rcases zcut (5 : Int) a2.toInt with h58 | h58
              · skip
                refine w_cgt_t dX9_is_7 (t := 14) rfl (by have := zt_5; omega) ?_
                refine w_ic dX9_is_14 zi_0 ?_
                refine w_en dX9_is_15 rfl ?_
                show ZW _ _ _ _ _ _ _ (45, [some (.ref 386), some (.int a0), some (.int a1), some (.int a2), none, none, none, none, none], [.int 0], M0)
                refine w_ine_f dX9_letter_45 (t := 50) rfl (by have := zt_0; omega) ?_
                refine w_ic dX9_letter_48 zi_m1 ?_
                refine w_en dX9_letter_49 rfl ?_
                exact ⟨_, _, rfl, (zbot _), (ztop _), hJ0, trivial⟩
              · skip
                refine w_cgt_f dX9_is_7 (t := 14) rfl (by have := zt_5; omega) ?_
                refine w_ic dX9_is_10 zi_1 ?_
                refine w_gt dX9_is_11 (t := 15) rfl ?_
                refine w_en dX9_is_15 rfl ?_
                show ZW _ _ _ _ _ _ _ (45, [some (.ref 386), some (.int a0), some (.int a1), some (.int a2), none, none, none, none, none], [.int 1], M0)
                refine w_ine_t dX9_letter_45 (t := 50) rfl (by have := zt_1; omega) ?_
                refine w_lo dX9_letter_50 rfl rfl rfl rfl ?_
                refine w_ine_f dX9_letter_51 (t := 71) rfl (by omega) ?_
                refine w_lo dX9_letter_54 rfl rfl rfl rfl ?_
                refine w_gf dX9_letter_55 rfl hJ0.1.1 zs_386 (zr_386_14 hJ0.1) ?_
                refine w_bi dX9_letter_58 (c := 12) (by decide) ?_
                refine w_lo dX9_letter_60 rfl rfl rfl rfl ?_
                refine w_gf dX9_letter_61 rfl hJ0.1.1 zs_386 f46 ?_
                refine w_mulc dX9_letter_64 zt_12 (by have := zt_12; omega) ?_
                intro x59 h60
                have := zt_12
                refine w_lo dX9_letter_65 rfl rfl rfl rfl ?_
                refine w_add dX9_letter_66 (by omega) ?_
                intro x61 h62
                refine w_lal dX9_letter_67 hJ0.1 zs_389 (by omega) (by omega) zu_389 ?_
                intro y66 f63
                refine w_gt dX9_letter_68 (t := 85) rfl ?_
                refine w_lo (ml' := [some (.ref 386), some (.int a0), some (.int a1), some (.int a2), some (.long y66), none, none, none, none]) dX9_letter_85 rfl rfl rfl rfl ?_
                refine w_ic dX9_letter_87 zi_0 ?_
                refine w_lo (ml' := [some (.ref 386), some (.int a0), some (.int a1), some (.int a2), some (.long y66), none, some (.int 0), none, none]) dX9_letter_88 rfl rfl rfl rfl ?_
                refine w_lo dX9_letter_90 rfl rfl rfl rfl ?_
                refine w_lo (ml' := [some (.ref 386), some (.int a0), some (.int a1), some (.int a2), some (.long y66), none, some (.int 0), some (.long y66), none]) dX9_letter_92 rfl rfl rfl rfl ?_
                exact ih94 M0 (some (.ref 386)) a0 a1 a2 y66 0 y66 hJ0 (by omega) (by omega) (zlbot _) (zltop _) (zbot _) (ztop _) (zlbot _) (zltop _) (by have := zt_0; omega)
set_option maxRecDepth 100000 in
theorem k_2354 {X : List Int32} {d N : Nat} {M0 : zM} (a0 : Int32) (ha00 : (0 : Int) ≤ a0.toInt) (ha01 : a0.toInt ≤ 1) (a1 : Int32) (ha10 : (0 : Int) ≤ a1.toInt) (ha11 : a1.toInt ≤ 11) (hN : N ≤ 600) (hB0 : zB N M0) : ZV X (d + 2) 2354 [.ref 386, .int a0, .int a1] M0 (zRI N [] M0 (-1) (11) (fun _ _ => True)) := by
  have hJ0 : zJ N [] M0 M0 := zJ_refl hB0
  refine ZV.of (ini := false) rfl (Nat.le_of_ble_eq_true rfl) (by decide +kernel) ?_
  have main : ∀ n : Nat,
      (∀ (M : zM) (v2_1 : Int32) (v2_2 : Int32) (v2_3 : Int32), zJ N [] M0 M → ((0 : Int) ≤ v2_1.toInt) → (v2_1.toInt ≤ 1) → ((0 : Int) ≤ v2_2.toInt) → (v2_2.toInt ≤ 11) → ((0 : Int) ≤ v2_3.toInt) → (v2_3.toInt ≤ 12) → 3 * (12 - v2_3.toInt) + 1 < (n : Int) → ZW X (d + 1) 9 false (some .int) cX9_placeOf (zRI N [] M0 (-1) (11) (fun _ _ => True)) (2, [some (.ref 386), some (.int v2_1), some (.int v2_2), some (.int v2_3)], [], M)) := by
    intro n
    induction n with
    | zero =>
      exact (fun M v2_1 v2_2 v2_3 hJ v2_10 v2_11 v2_20 v2_21 v2_30 v2_31 hn => absurd hn (by omega))
    | succ n ih =>
      have ih2 := ih
      · intro M v2_1 v2_2 v2_3 hJ v2_10 v2_11 v2_20 v2_21 v2_30 v2_31 hn
        refine w_lo dX9_placeOf_2 rfl rfl rfl rfl ?_
        refine w_lo dX9_placeOf_3 rfl rfl rfl rfl ?_
        refine w_iv dX9_placeOf_4 rfl rfl (As := []) rfl rfl hJ.1.1 zs_386 (Nat.le_of_ble_eq_true rfl) ?_
        refine ZV.of (ini := false) rfl (Nat.le_of_ble_eq_true rfl) (by decide +kernel) ?_
        show ZW _ _ _ _ _ _ _ (0, [some (.ref 386)], [], M)
        refine w_lo dX9_many_0 rfl rfl rfl rfl ?_
        refine w_gf dX9_many_1 rfl hJ.1.1 zs_386 (zr_386_13 hJ.1) ?_
        refine w_lo dX9_many_4 rfl rfl rfl rfl ?_
        refine w_gfi dX9_many_5 rfl hJ.1 zs_386 (Nat.le_of_ble_eq_true rfl) zo_386_12 ?_
        intro x1 f2 h3 h4
        refine w_iai dX9_many_8 hJ.1 zs_388 (by omega) (by omega) zu_388 ?_
        intro x8 f5 h6 h7
        refine w_eni dX9_many_9 rfl rfl ?_
        show ZW _ _ _ _ _ _ _ (7, [some (.ref 386), some (.int v2_1), some (.int v2_2), some (.int v2_3)], [.int x8, .int v2_3], M)
        rcases zcut v2_3.toInt x8.toInt with h9 | h9
        · skip
          refine w_cge_f dX9_placeOf_7 (t := 33) rfl (by omega) ?_
          refine w_lo dX9_placeOf_10 rfl rfl rfl rfl ?_
          refine w_gf dX9_placeOf_11 rfl hJ.1.1 zs_386 (zr_386_50 hJ.1) ?_
          refine w_bi dX9_placeOf_14 (c := 12) (by decide) ?_
          refine w_lo dX9_placeOf_16 rfl rfl rfl rfl ?_
          refine w_mulc dX9_placeOf_17 zt_12 (by have := zt_12; omega) ?_
          intro x10 h11
          have := zt_12
          refine w_lo dX9_placeOf_18 rfl rfl rfl rfl ?_
          refine w_add dX9_placeOf_19 (by omega) ?_
          intro x12 h13
          refine w_iai dX9_placeOf_20 hJ.1 zs_419 (by omega) (by omega) zu_419 ?_
          intro x17 f14 h15 h16
          refine w_lo dX9_placeOf_21 rfl rfl rfl rfl ?_
          rcases Int.decEq x17.toInt v2_2.toInt with h18 | h18
          · skip
            refine w_cne_t dX9_placeOf_22 (t := 27) rfl (by omega) ?_
            refine w_inc (kk := 3) dX9_placeOf_27 rfl (m := 1) (by decide) (by omega) ?_
            intro x19 h20
            refine ⟨_, rfl, ?_⟩
            show ZW _ _ _ _ _ _ _ (30, [some (.ref 386), some (.int v2_1), some (.int v2_2), some (.int x19)], [], M)
            refine w_gt dX9_placeOf_30 (t := 2) rfl ?_
            exact ih2 M v2_1 v2_2 x19 hJ (by omega) (by omega) (by omega) (by omega) (by omega) (by omega) (by omega)
          · skip
            refine w_cne_f dX9_placeOf_22 (t := 27) rfl (by omega) ?_
            refine w_lo dX9_placeOf_25 rfl rfl rfl rfl ?_
            refine w_eni dX9_placeOf_26 rfl rfl ?_
            exact ⟨_, _, rfl, (by omega), (by omega), hJ, trivial⟩
        · skip
          refine w_cge_t dX9_placeOf_7 (t := 33) rfl (by omega) ?_
          refine w_ic dX9_placeOf_33 zi_m1 ?_
          refine w_en dX9_placeOf_34 rfl ?_
          exact ⟨_, _, rfl, (by have := zt_m1; omega), (by have := zt_m1; omega), hJ, trivial⟩
  have ih2 := main 48
  show ZW _ _ _ _ _ _ _ (0, [some (.ref 386), some (.int a0), some (.int a1), none], [], M0)
  refine w_ic dX9_placeOf_0 zi_0 ?_
  refine w_lo (ml' := [some (.ref 386), some (.int a0), some (.int a1), some (.int 0)]) dX9_placeOf_1 rfl rfl rfl rfl ?_
  exact ih2 M0 a0 a1 0 hJ0 (by omega) (by omega) (by omega) (by omega) (by have := zt_0; omega) (by have := zt_0; omega) (by have := zt_0; omega)
set_option maxRecDepth 100000 in
theorem k_2352 {X : List Int32} {d N : Nat} {M0 : zM} (a0 : Int32) (a1 : Int32) (hN : N ≤ 600) (hB0 : zB N M0) : ZV X (d + 3) 2352 [.ref 386, .int a0, .int a1] M0 (zRI N [] M0 (-2147483648) (2147483647) (fun _ _ => True)) := by
  have hJ0 : zJ N [] M0 M0 := zJ_refl hB0
  refine ZV.of (ini := false) rfl (Nat.le_of_ble_eq_true rfl) (by decide +kernel) ?_
  show ZW _ _ _ _ _ _ _ (0, [some (.ref 386), some (.int a0), some (.int a1)], [], M0)
  refine w_lo dX9_boy_0 rfl rfl rfl rfl ?_
  refine w_lo dX9_boy_1 rfl rfl rfl rfl ?_
  refine w_iv dX9_boy_2 rfl rfl (As := [.int a0]) rfl rfl hJ0.1.1 zs_386 (Nat.le_of_ble_eq_true rfl) ?_
  refine ZV.of (ini := false) rfl (Nat.le_of_ble_eq_true rfl) (by decide +kernel) ?_
  show ZW _ _ _ _ _ _ _ (0, [some (.ref 386), some (.int a0)], [], M0)
  refine w_lo dX9_isBoy_0 rfl rfl rfl rfl ?_
  rcases zcut a0.toInt (0 : Int) with h1 | h1
  · skip
    refine w_ilt_t dX9_isBoy_1 (t := 21) rfl (by omega) ?_
    refine w_ic dX9_isBoy_21 zi_0 ?_
    refine w_en dX9_isBoy_22 rfl ?_
    show ZW _ _ _ _ _ _ _ (5, [some (.ref 386), some (.int a0), some (.int a1)], [.int 0], M0)
    refine w_ine_f dX9_boy_5 (t := 10) rfl (by have := zt_0; omega) ?_
    refine w_ic dX9_boy_8 zi_m1 ?_
    refine w_en dX9_boy_9 rfl ?_
    exact ⟨_, _, rfl, (zbot _), (ztop _), hJ0, trivial⟩
  · skip
    refine w_ilt_f dX9_isBoy_1 (t := 21) rfl (by omega) ?_
    refine w_lo dX9_isBoy_4 rfl rfl rfl rfl ?_
    refine w_lo dX9_isBoy_5 rfl rfl rfl rfl ?_
    refine w_gf dX9_isBoy_6 rfl hJ0.1.1 zs_386 (zr_386_13 hJ0.1) ?_
    refine w_lo dX9_isBoy_9 rfl rfl rfl rfl ?_
    refine w_gfi dX9_isBoy_10 rfl hJ0.1 zs_386 (Nat.le_of_ble_eq_true rfl) zo_386_12 ?_
    intro x2 f3 h4 h5
    refine w_iai dX9_isBoy_13 hJ0.1 zs_388 (by omega) (by omega) zu_388 ?_
    intro x9 f6 h7 h8
    rcases zcut a0.toInt x9.toInt with h10 | h10
    · skip
      refine w_cge_f dX9_isBoy_14 (t := 21) rfl (by omega) ?_
      refine w_ic dX9_isBoy_17 zi_1 ?_
      refine w_gt dX9_isBoy_18 (t := 22) rfl ?_
      refine w_en dX9_isBoy_22 rfl ?_
      show ZW _ _ _ _ _ _ _ (5, [some (.ref 386), some (.int a0), some (.int a1)], [.int 1], M0)
      refine w_ine_t dX9_boy_5 (t := 10) rfl (by have := zt_1; omega) ?_
      refine w_lo dX9_boy_10 rfl rfl rfl rfl ?_
      rcases Int.decEq a1.toInt (0 : Int) with h11 | h11
      rotate_left
      · skip
        refine w_ts dX9_boy_11 (t := 76) (j := 0) h11 (by decide) ?_
        refine w_lo dX9_boy_76 rfl rfl rfl rfl ?_
        refine w_gf dX9_boy_77 rfl hJ0.1.1 zs_386 (zr_386_15 hJ0.1) ?_
        refine w_bi dX9_boy_80 (c := 12) (by decide) ?_
        refine w_lo dX9_boy_82 rfl rfl rfl rfl ?_
        refine w_gf dX9_boy_83 rfl hJ0.1.1 zs_386 f3 ?_
        refine w_mulc dX9_boy_86 zt_12 (by have := zt_12; omega) ?_
        intro x12 h13
        have := zt_12
        refine w_lo dX9_boy_87 rfl rfl rfl rfl ?_
        refine w_add dX9_boy_88 (by omega) ?_
        intro x14 h15
        refine w_iai dX9_boy_89 hJ0.1 zs_390 (by omega) (by omega) zu_390 ?_
        intro x19 f16 h17 h18
        refine w_eni dX9_boy_90 rfl rfl ?_
        exact ⟨_, _, rfl, (zbot _), (ztop _), hJ0, trivial⟩
      rcases Int.decEq a1.toInt (1 : Int) with h20 | h20
      rotate_left
      · skip
        refine w_ts dX9_boy_11 (t := 91) (j := 1) h20 (by decide) ?_
        refine w_lo dX9_boy_91 rfl rfl rfl rfl ?_
        refine w_gf dX9_boy_92 rfl hJ0.1.1 zs_386 (zr_386_16 hJ0.1) ?_
        refine w_bi dX9_boy_95 (c := 12) (by decide) ?_
        refine w_lo dX9_boy_97 rfl rfl rfl rfl ?_
        refine w_gf dX9_boy_98 rfl hJ0.1.1 zs_386 f3 ?_
        refine w_mulc dX9_boy_101 zt_12 (by have := zt_12; omega) ?_
        intro x21 h22
        have := zt_12
        refine w_lo dX9_boy_102 rfl rfl rfl rfl ?_
        refine w_add dX9_boy_103 (by omega) ?_
        intro x23 h24
        refine w_iai dX9_boy_104 hJ0.1 zs_391 (by omega) (by omega) zu_391 ?_
        intro x28 f25 h26 h27
        refine w_eni dX9_boy_105 rfl rfl ?_
        exact ⟨_, _, rfl, (zbot _), (ztop _), hJ0, trivial⟩
      rcases Int.decEq a1.toInt (2 : Int) with h29 | h29
      rotate_left
      · skip
        refine w_ts dX9_boy_11 (t := 106) (j := 2) h29 (by decide) ?_
        refine w_lo dX9_boy_106 rfl rfl rfl rfl ?_
        refine w_gf dX9_boy_107 rfl hJ0.1.1 zs_386 (zr_386_17 hJ0.1) ?_
        refine w_bi dX9_boy_110 (c := 12) (by decide) ?_
        refine w_lo dX9_boy_112 rfl rfl rfl rfl ?_
        refine w_gf dX9_boy_113 rfl hJ0.1.1 zs_386 f3 ?_
        refine w_mulc dX9_boy_116 zt_12 (by have := zt_12; omega) ?_
        intro x30 h31
        have := zt_12
        refine w_lo dX9_boy_117 rfl rfl rfl rfl ?_
        refine w_add dX9_boy_118 (by omega) ?_
        intro x32 h33
        refine w_iai dX9_boy_119 hJ0.1 zs_392 (by omega) (by omega) zu_392 ?_
        intro x37 f34 h35 h36
        refine w_eni dX9_boy_120 rfl rfl ?_
        exact ⟨_, _, rfl, (zbot _), (ztop _), hJ0, trivial⟩
      rcases Int.decEq a1.toInt (3 : Int) with h38 | h38
      rotate_left
      · skip
        refine w_ts dX9_boy_11 (t := 121) (j := 3) h38 (by decide) ?_
        refine w_lo dX9_boy_121 rfl rfl rfl rfl ?_
        refine w_gf dX9_boy_122 rfl hJ0.1.1 zs_386 (zr_386_18 hJ0.1) ?_
        refine w_bi dX9_boy_125 (c := 12) (by decide) ?_
        refine w_lo dX9_boy_127 rfl rfl rfl rfl ?_
        refine w_gf dX9_boy_128 rfl hJ0.1.1 zs_386 f3 ?_
        refine w_mulc dX9_boy_131 zt_12 (by have := zt_12; omega) ?_
        intro x39 h40
        have := zt_12
        refine w_lo dX9_boy_132 rfl rfl rfl rfl ?_
        refine w_add dX9_boy_133 (by omega) ?_
        intro x41 h42
        refine w_iai dX9_boy_134 hJ0.1 zs_393 (by omega) (by omega) zu_393 ?_
        intro x46 f43 h44 h45
        refine w_eni dX9_boy_135 rfl rfl ?_
        exact ⟨_, _, rfl, (zbot _), (ztop _), hJ0, trivial⟩
      rcases Int.decEq a1.toInt (4 : Int) with h47 | h47
      rotate_left
      · skip
        refine w_ts dX9_boy_11 (t := 136) (j := 4) h47 (by decide) ?_
        refine w_lo dX9_boy_136 rfl rfl rfl rfl ?_
        refine w_gf dX9_boy_137 rfl hJ0.1.1 zs_386 (zr_386_19 hJ0.1) ?_
        refine w_bi dX9_boy_140 (c := 12) (by decide) ?_
        refine w_lo dX9_boy_142 rfl rfl rfl rfl ?_
        refine w_gf dX9_boy_143 rfl hJ0.1.1 zs_386 f3 ?_
        refine w_mulc dX9_boy_146 zt_12 (by have := zt_12; omega) ?_
        intro x48 h49
        have := zt_12
        refine w_lo dX9_boy_147 rfl rfl rfl rfl ?_
        refine w_add dX9_boy_148 (by omega) ?_
        intro x50 h51
        refine w_iai dX9_boy_149 hJ0.1 zs_394 (by omega) (by omega) zu_394 ?_
        intro x55 f52 h53 h54
        refine w_eni dX9_boy_150 rfl rfl ?_
        exact ⟨_, _, rfl, (zbot _), (ztop _), hJ0, trivial⟩
      rcases Int.decEq a1.toInt (5 : Int) with h56 | h56
      rotate_left
      · skip
        refine w_ts dX9_boy_11 (t := 151) (j := 5) h56 (by decide) ?_
        refine w_lo dX9_boy_151 rfl rfl rfl rfl ?_
        refine w_ic dX9_boy_152 zi_0 ?_
        refine w_lo dX9_boy_153 rfl rfl rfl rfl ?_
        refine w_iv dX9_boy_154 rfl rfl (As := [.int 0, .int a0]) rfl rfl hJ0.1.1 zs_386 (Nat.le_of_ble_eq_true rfl) ?_
        refine ZV.imp (k_2354 0 (by have := zt_0; omega) (by have := zt_0; omega) a0 (by omega) (by omega) hN hJ0.1) ?_
        rintro _ ⟨x60, M57, rfl, h61, h62, hJ58, hq59⟩
        have hJ63 := zJ_trans hJ0 hJ58 zSub_nil
        show ZW _ _ _ _ _ _ _ (157, [some (.ref 386), some (.int a0), some (.int a1)], [.int x60], M57)
        refine w_eni dX9_boy_157 rfl rfl ?_
        exact ⟨_, _, rfl, (zbot _), (ztop _), hJ63, trivial⟩
      rcases Int.decEq a1.toInt (6 : Int) with h64 | h64
      rotate_left
      · skip
        refine w_ts dX9_boy_11 (t := 158) (j := 6) h64 (by decide) ?_
        refine w_lo dX9_boy_158 rfl rfl rfl rfl ?_
        refine w_gf dX9_boy_159 rfl hJ0.1.1 zs_386 (zr_386_51 hJ0.1) ?_
        refine w_lo dX9_boy_162 rfl rfl rfl rfl ?_
        refine w_iai dX9_boy_163 hJ0.1 zs_420 (by omega) (by omega) zu_420 ?_
        intro x68 f65 h66 h67
        refine w_eni dX9_boy_164 rfl rfl ?_
        exact ⟨_, _, rfl, (zbot _), (ztop _), hJ0, trivial⟩
      rcases Int.decEq a1.toInt (7 : Int) with h69 | h69
      rotate_left
      · skip
        refine w_ts dX9_boy_11 (t := 165) (j := 7) h69 (by decide) ?_
        refine w_lo dX9_boy_165 rfl rfl rfl rfl ?_
        refine w_gf dX9_boy_166 rfl hJ0.1.1 zs_386 (zr_386_52 hJ0.1) ?_
        refine w_lo dX9_boy_169 rfl rfl rfl rfl ?_
        refine w_iai dX9_boy_170 hJ0.1 zs_421 (by omega) (by omega) zu_421 ?_
        intro x73 f70 h71 h72
        refine w_eni dX9_boy_171 rfl rfl ?_
        exact ⟨_, _, rfl, (zbot _), (ztop _), hJ0, trivial⟩
      rcases Int.decEq a1.toInt (8 : Int) with h74 | h74
      rotate_left
      · skip
        refine w_ts dX9_boy_11 (t := 172) (j := 8) h74 (by decide) ?_
        refine w_lo dX9_boy_172 rfl rfl rfl rfl ?_
        refine w_gf dX9_boy_173 rfl hJ0.1.1 zs_386 (zr_386_53 hJ0.1) ?_
        refine w_lo dX9_boy_176 rfl rfl rfl rfl ?_
        refine w_iai dX9_boy_177 hJ0.1 zs_422 (by omega) (by omega) zu_422 ?_
        intro x78 f75 h76 h77
        refine w_eni dX9_boy_178 rfl rfl ?_
        exact ⟨_, _, rfl, (zbot _), (ztop _), hJ0, trivial⟩
      rcases Int.decEq a1.toInt (9 : Int) with h79 | h79
      rotate_left
      · skip
        refine w_ts dX9_boy_11 (t := 179) (j := 9) h79 (by decide) ?_
        refine w_lo dX9_boy_179 rfl rfl rfl rfl ?_
        refine w_gf dX9_boy_180 rfl hJ0.1.1 zs_386 (zr_386_54 hJ0.1) ?_
        refine w_lo dX9_boy_183 rfl rfl rfl rfl ?_
        refine w_iai dX9_boy_184 hJ0.1 zs_423 (by omega) (by omega) zu_423 ?_
        intro x83 f80 h81 h82
        refine w_eni dX9_boy_185 rfl rfl ?_
        exact ⟨_, _, rfl, (zbot _), (ztop _), hJ0, trivial⟩
      rcases Int.decEq a1.toInt (10 : Int) with h84 | h84
      rotate_left
      · skip
        refine w_ts dX9_boy_11 (t := 186) (j := 10) h84 (by decide) ?_
        refine w_lo dX9_boy_186 rfl rfl rfl rfl ?_
        refine w_gf dX9_boy_187 rfl hJ0.1.1 zs_386 (zr_386_57 hJ0.1) ?_
        refine w_lo dX9_boy_190 rfl rfl rfl rfl ?_
        refine w_iai dX9_boy_191 hJ0.1 zs_426 (by omega) (by omega) zu_426 ?_
        intro x88 f85 h86 h87
        refine w_eni dX9_boy_192 rfl rfl ?_
        exact ⟨_, _, rfl, (zbot _), (ztop _), hJ0, trivial⟩
      rcases Int.decEq a1.toInt (11 : Int) with h89 | h89
      rotate_left
      · skip
        refine w_ts dX9_boy_11 (t := 193) (j := 11) h89 (by decide) ?_
        refine w_lo dX9_boy_193 rfl rfl rfl rfl ?_
        refine w_gf dX9_boy_194 rfl hJ0.1.1 zs_386 (zr_386_58 hJ0.1) ?_
        refine w_lo dX9_boy_197 rfl rfl rfl rfl ?_
        refine w_iai dX9_boy_198 hJ0.1 zs_427 (by omega) (by omega) zu_427 ?_
        intro x93 f90 h91 h92
        refine w_eni dX9_boy_199 rfl rfl ?_
        exact ⟨_, _, rfl, (zbot _), (ztop _), hJ0, trivial⟩
      rcases Int.decEq a1.toInt (12 : Int) with h94 | h94
      rotate_left
      · skip
        refine w_ts dX9_boy_11 (t := 200) (j := 12) h94 (by decide) ?_
        refine w_lo dX9_boy_200 rfl rfl rfl rfl ?_
        refine w_gf dX9_boy_201 rfl hJ0.1.1 zs_386 (zr_386_59 hJ0.1) ?_
        refine w_lo dX9_boy_204 rfl rfl rfl rfl ?_
        refine w_iai dX9_boy_205 hJ0.1 zs_428 (by omega) (by omega) zu_428 ?_
        intro x98 f95 h96 h97
        refine w_eni dX9_boy_206 rfl rfl ?_
        exact ⟨_, _, rfl, (zbot _), (ztop _), hJ0, trivial⟩
      refine w_td dX9_boy_11 (t := 207) (by omega) rfl ?_
      refine w_ic dX9_boy_207 zi_m1 ?_
      refine w_en dX9_boy_208 rfl ?_
      exact ⟨_, _, rfl, (zbot _), (ztop _), hJ0, trivial⟩
    · skip
      refine w_cge_t dX9_isBoy_14 (t := 21) rfl (by omega) ?_
      refine w_ic dX9_isBoy_21 zi_0 ?_
      refine w_en dX9_isBoy_22 rfl ?_
      show ZW _ _ _ _ _ _ _ (5, [some (.ref 386), some (.int a0), some (.int a1)], [.int 0], M0)
      refine w_ine_f dX9_boy_5 (t := 10) rfl (by have := zt_0; omega) ?_
      refine w_ic dX9_boy_8 zi_m1 ?_
      refine w_en dX9_boy_9 rfl ?_
      exact ⟨_, _, rfl, (zbot _), (ztop _), hJ0, trivial⟩
set_option maxRecDepth 100000 in
theorem k_2355 {X : List Int32} {d N : Nat} {M0 : zM} (a0 : Int32) (hN : N ≤ 600) (hB0 : zB N M0) : ZV X (d + 2) 2355 [.ref 386, .int a0] M0 (zRI N [] M0 (-1) (11) (fun _ _ => True)) := by
  have hJ0 : zJ N [] M0 M0 := zJ_refl hB0
  refine ZV.of (ini := false) rfl (Nat.le_of_ble_eq_true rfl) (by decide +kernel) ?_
  show ZW _ _ _ _ _ _ _ (0, [some (.ref 386), some (.int a0)], [], M0)
  refine w_lo dX9_at_0 rfl rfl rfl rfl ?_
  refine w_lo dX9_at_1 rfl rfl rfl rfl ?_
  refine w_iv dX9_at_2 rfl rfl (As := [.int a0]) rfl rfl hJ0.1.1 zs_386 (Nat.le_of_ble_eq_true rfl) ?_
  refine ZV.of (ini := false) rfl (Nat.le_of_ble_eq_true rfl) (by decide +kernel) ?_
  show ZW _ _ _ _ _ _ _ (0, [some (.ref 386), some (.int a0)], [], M0)
  refine w_lo dX9_isBoy_0 rfl rfl rfl rfl ?_
  rcases zcut a0.toInt (0 : Int) with h1 | h1
  · skip
    refine w_ilt_t dX9_isBoy_1 (t := 21) rfl (by omega) ?_
    refine w_ic dX9_isBoy_21 zi_0 ?_
    refine w_en dX9_isBoy_22 rfl ?_
    show ZW _ _ _ _ _ _ _ (5, [some (.ref 386), some (.int a0)], [.int 0], M0)
    refine w_ieq_t dX9_at_5 (t := 17) rfl (by have := zt_0; omega) ?_
    refine w_ic dX9_at_17 zi_m1 ?_
    refine w_en dX9_at_18 rfl ?_
    exact ⟨_, _, rfl, (by have := zt_m1; omega), (by have := zt_m1; omega), hJ0, trivial⟩
  · skip
    refine w_ilt_f dX9_isBoy_1 (t := 21) rfl (by omega) ?_
    refine w_lo dX9_isBoy_4 rfl rfl rfl rfl ?_
    refine w_lo dX9_isBoy_5 rfl rfl rfl rfl ?_
    refine w_gf dX9_isBoy_6 rfl hJ0.1.1 zs_386 (zr_386_13 hJ0.1) ?_
    refine w_lo dX9_isBoy_9 rfl rfl rfl rfl ?_
    refine w_gfi dX9_isBoy_10 rfl hJ0.1 zs_386 (Nat.le_of_ble_eq_true rfl) zo_386_12 ?_
    intro x2 f3 h4 h5
    refine w_iai dX9_isBoy_13 hJ0.1 zs_388 (by omega) (by omega) zu_388 ?_
    intro x9 f6 h7 h8
    rcases zcut a0.toInt x9.toInt with h10 | h10
    · skip
      refine w_cge_f dX9_isBoy_14 (t := 21) rfl (by omega) ?_
      refine w_ic dX9_isBoy_17 zi_1 ?_
      refine w_gt dX9_isBoy_18 (t := 22) rfl ?_
      refine w_en dX9_isBoy_22 rfl ?_
      show ZW _ _ _ _ _ _ _ (5, [some (.ref 386), some (.int a0)], [.int 1], M0)
      refine w_ieq_f dX9_at_5 (t := 17) rfl (by have := zt_1; omega) ?_
      refine w_lo dX9_at_8 rfl rfl rfl rfl ?_
      refine w_gf dX9_at_9 rfl hJ0.1.1 zs_386 (zr_386_50 hJ0.1) ?_
      refine w_lo dX9_at_12 rfl rfl rfl rfl ?_
      refine w_iai dX9_at_13 hJ0.1 zs_419 (by omega) (by omega) zu_419 ?_
      intro x14 f11 h12 h13
      refine w_gt dX9_at_14 (t := 18) rfl ?_
      refine w_eni dX9_at_18 rfl rfl ?_
      exact ⟨_, _, rfl, (by omega), (by omega), hJ0, trivial⟩
    · skip
      refine w_cge_t dX9_isBoy_14 (t := 21) rfl (by omega) ?_
      refine w_ic dX9_isBoy_21 zi_0 ?_
      refine w_en dX9_isBoy_22 rfl ?_
      show ZW _ _ _ _ _ _ _ (5, [some (.ref 386), some (.int a0)], [.int 0], M0)
      refine w_ieq_t dX9_at_5 (t := 17) rfl (by have := zt_0; omega) ?_
      refine w_ic dX9_at_17 zi_m1 ?_
      refine w_en dX9_at_18 rfl ?_
      exact ⟨_, _, rfl, (by have := zt_m1; omega), (by have := zt_m1; omega), hJ0, trivial⟩
set_option maxRecDepth 100000 in
theorem k_2358 {X : List Int32} {d N : Nat} {M0 : zM} (a0 : Int32) (ha00 : (0 : Int) ≤ a0.toInt) (ha01 : a0.toInt ≤ 10) (hN : N ≤ 600) (hB0 : zB N M0) : ZV X (d + 2) 2358 [.ref 386, .int a0] M0 (zRI N [] M0 (-2147483648) (2147483647) (fun _ _ => True)) := by
  have hJ0 : zJ N [] M0 M0 := zJ_refl hB0
  refine ZV.of (ini := false) rfl (Nat.le_of_ble_eq_true rfl) (by decide +kernel) ?_
  have main : ∀ n : Nat,
      (∀ (M : zM) (v12_1 : Int32) (v12_2 : Int32) (v12_3 : Int32) (v12_4 : Int32) (o12_5 : Option Value), zJ N [] M0 M → ((0 : Int) ≤ v12_1.toInt) → (v12_1.toInt ≤ 10) → ((-2147483648 : Int) ≤ v12_2.toInt) → (v12_2.toInt ≤ 2147483647) → ((-2147483648 : Int) ≤ v12_3.toInt) → (v12_3.toInt ≤ 2147483647) → ((-2 : Int) ≤ v12_4.toInt) → (v12_4.toInt ≤ 10) → 5 * (v12_4.toInt - (-2)) + 3 < (n : Int) → ZW X (d + 1) 9 false (some .int) cX9_strain (zRI N [] M0 (-2147483648) (2147483647) (fun _ _ => True)) (12, [some (.ref 386), some (.int v12_1), some (.int v12_2), some (.int v12_3), some (.int v12_4), o12_5], [], M)) ∧
      (∀ (M : zM) (v73_1 : Int32) (v73_2 : Int32) (u73_3 : Int32) (v73_4 : Int32) (u73_5 : Int32) (s73_0 : Int32), zJ N [] M0 M → ((0 : Int) ≤ v73_1.toInt) → (v73_1.toInt ≤ 10) → ((-2147483648 : Int) ≤ v73_2.toInt) → (v73_2.toInt ≤ 2147483647) → ((0 : Int) ≤ v73_4.toInt) → (v73_4.toInt ≤ 10) → ((-2147483648 : Int) ≤ s73_0.toInt) → (s73_0.toInt ≤ 2147483647) → 5 * (v73_4.toInt - (-2)) + 2 < (n : Int) → ZW X (d + 1) 9 false (some .int) cX9_strain (zRI N [] M0 (-2147483648) (2147483647) (fun _ _ => True)) (73, [some (.ref 386), some (.int v73_1), some (.int v73_2), some (.int u73_3), some (.int v73_4), some (.int u73_5)], [.int s73_0], M)) ∧
      (∀ (M : zM) (v75_1 : Int32) (u75_2 : Int32) (u75_3 : Int32) (v75_4 : Int32) (u75_5 : Int32) (s75_0 : Int32), zJ N [] M0 M → ((0 : Int) ≤ v75_1.toInt) → (v75_1.toInt ≤ 10) → ((0 : Int) ≤ v75_4.toInt) → (v75_4.toInt ≤ 10) → ((-2147483648 : Int) ≤ s75_0.toInt) → (s75_0.toInt ≤ 2147483647) → 5 * (v75_4.toInt - (-2)) + 1 < (n : Int) → ZW X (d + 1) 9 false (some .int) cX9_strain (zRI N [] M0 (-2147483648) (2147483647) (fun _ _ => True)) (75, [some (.ref 386), some (.int v75_1), some (.int u75_2), some (.int u75_3), some (.int v75_4), some (.int u75_5)], [.int s75_0], M)) := by
    intro n
    induction n with
    | zero =>
      exact ⟨(fun M v12_1 v12_2 v12_3 v12_4 o12_5 hJ v12_10 v12_11 v12_20 v12_21 v12_30 v12_31 v12_40 v12_41 hn => absurd hn (by omega)), (fun M v73_1 v73_2 u73_3 v73_4 u73_5 s73_0 hJ v73_10 v73_11 v73_20 v73_21 v73_40 v73_41 s73_00 s73_01 hn => absurd hn (by omega)), (fun M v75_1 u75_2 u75_3 v75_4 u75_5 s75_0 hJ v75_10 v75_11 v75_40 v75_41 s75_00 s75_01 hn => absurd hn (by omega))⟩
    | succ n ih =>
      obtain ⟨ih12, ih73, ih75⟩ := ih
      refine ⟨?_, ?_, ?_⟩
      · intro M v12_1 v12_2 v12_3 v12_4 o12_5 hJ v12_10 v12_11 v12_20 v12_21 v12_30 v12_31 v12_40 v12_41 hn
        refine w_lo dX9_strain_12 rfl rfl rfl rfl ?_
        refine w_lo dX9_strain_14 rfl rfl rfl rfl ?_
        rcases zcut v12_4.toInt v12_1.toInt with h1 | h1
        · skip
          refine w_clt_t dX9_strain_15 (t := 107) rfl (by omega) ?_
          refine w_lo dX9_strain_107 rfl rfl rfl rfl ?_
          refine w_eni dX9_strain_108 rfl rfl ?_
          exact ⟨_, _, rfl, (zbot _), (ztop _), hJ, trivial⟩
        · skip
          refine w_clt_f dX9_strain_15 (t := 107) rfl (by omega) ?_
          refine w_lo dX9_strain_18 rfl rfl rfl rfl ?_
          refine w_gf dX9_strain_19 rfl hJ.1.1 zs_386 (zr_386_50 hJ.1) ?_
          refine w_lo dX9_strain_22 rfl rfl rfl rfl ?_
          refine w_ic dX9_strain_24 zi_1 ?_
          refine w_add dX9_strain_25 (by have := zt_1; omega) ?_
          intro x2 h3
          have := zt_1
          refine w_iai dX9_strain_26 hJ.1 zs_419 (by omega) (by omega) zu_419 ?_
          intro x7 f4 h5 h6
          refine w_lo (ml' := [some (.ref 386), some (.int v12_1), some (.int v12_2), some (.int v12_3), some (.int v12_4), some (.int x7)]) dX9_strain_27 rfl rfl rfl rfl ?_
          refine w_lo dX9_strain_29 rfl rfl rfl rfl ?_
          refine w_gf dX9_strain_30 rfl hJ.1.1 zs_386 (zr_386_60 hJ.1) ?_
          refine w_lo dX9_strain_33 rfl rfl rfl rfl ?_
          refine w_iai dX9_strain_35 hJ.1 zs_429 (by omega) (by omega) zu_429 ?_
          intro x11 f8 h9 h10
          rcases Int.decEq x11.toInt (0 : Int) with h12 | h12
          · skip
            refine w_ine_t dX9_strain_36 (t := 43) rfl (by omega) ?_
            refine w_lo dX9_strain_43 rfl rfl rfl rfl ?_
            refine w_gf dX9_strain_44 rfl hJ.1.1 zs_386 (zr_386_51 hJ.1) ?_
            refine w_lo dX9_strain_47 rfl rfl rfl rfl ?_
            refine w_iai dX9_strain_49 hJ.1 zs_420 (by omega) (by omega) zu_420 ?_
            intro x16 f13 h14 h15
            refine w_ic dX9_strain_50 zi_1 ?_
            rcases Int.decEq x16.toInt (1 : Int) with h17 | h17
            · skip
              refine w_cne_t dX9_strain_51 (t := 72) rfl (by have := zt_1; omega) ?_
              refine w_ic dX9_strain_72 zi_0 ?_
              exact ih73 M v12_1 v12_2 v12_3 v12_4 x7 0 hJ (by omega) (by omega) (zbot _) (ztop _) (by omega) (by omega) (zbot _) (ztop _) (by have := zt_0; omega)
            · skip
              refine w_cne_f dX9_strain_51 (t := 72) rfl (by have := zt_1; omega) ?_
              refine w_lo dX9_strain_54 rfl rfl rfl rfl ?_
              refine w_gf dX9_strain_55 rfl hJ.1.1 zs_386 (zr_386_18 hJ.1) ?_
              refine w_bi dX9_strain_58 (c := 12) (by decide) ?_
              refine w_lo dX9_strain_60 rfl rfl rfl rfl ?_
              refine w_gfi dX9_strain_61 rfl hJ.1 zs_386 (Nat.le_of_ble_eq_true rfl) zo_386_12 ?_
              intro x18 f19 h20 h21
              refine w_mulc dX9_strain_64 zt_12 (by have := zt_12; omega) ?_
              intro x22 h23
              have := zt_12
              refine w_lo dX9_strain_65 rfl rfl rfl rfl ?_
              refine w_add dX9_strain_67 (by omega) ?_
              intro x24 h25
              refine w_iai dX9_strain_68 hJ.1 zs_393 (by omega) (by omega) zu_393 ?_
              intro x29 f26 h27 h28
              refine w_gt dX9_strain_69 (t := 73) rfl ?_
              exact ih73 M v12_1 v12_2 v12_3 v12_4 x7 x29 hJ (by omega) (by omega) (zbot _) (ztop _) (by omega) (by omega) (zbot _) (ztop _) (by omega)
          · skip
            refine w_ine_f dX9_strain_36 (t := 43) rfl (by omega) ?_
            refine w_ic dX9_strain_39 zi_0 ?_
            refine w_gt dX9_strain_40 (t := 75) rfl ?_
            exact ih75 M v12_1 v12_2 v12_3 v12_4 x7 0 hJ (by omega) (by omega) (by omega) (by omega) (zbot _) (ztop _) (by have := zt_0; omega)
      · intro M v73_1 v73_2 u73_3 v73_4 u73_5 s73_0 hJ v73_10 v73_11 v73_20 v73_21 v73_40 v73_41 s73_00 s73_01 hn
        refine w_lo dX9_strain_73 rfl rfl rfl rfl ?_
        refine w_puI dX9_strain_74 rfl rfl ?_
        intro x30
        exact ih75 M v73_1 v73_2 u73_3 v73_4 u73_5 x30 hJ (by omega) (by omega) (by omega) (by omega) (zbot _) (ztop _) (by omega)
      · intro M v75_1 u75_2 u75_3 v75_4 u75_5 s75_0 hJ v75_10 v75_11 v75_40 v75_41 s75_00 s75_01 hn
        refine w_lo (ml' := [some (.ref 386), some (.int v75_1), some (.int u75_2), some (.int s75_0), some (.int v75_4), some (.int u75_5)]) dX9_strain_75 rfl rfl rfl rfl ?_
        refine w_lo dX9_strain_76 rfl rfl rfl rfl ?_
        refine w_lo dX9_strain_77 rfl rfl rfl rfl ?_
        refine w_gf dX9_strain_78 rfl hJ.1.1 zs_386 (zr_386_61 hJ.1) ?_
        refine w_lo dX9_strain_81 rfl rfl rfl rfl ?_
        refine w_iai dX9_strain_83 hJ.1 zs_430 (by omega) (by omega) zu_430 ?_
        intro x34 f31 h32 h33
        rcases zcut x34.toInt s75_0.toInt with h35 | h35
        · skip
          refine w_cle_f dX9_strain_84 (t := 99) rfl (by omega) ?_
          refine w_lo dX9_strain_87 rfl rfl rfl rfl ?_
          refine w_lo dX9_strain_88 rfl rfl rfl rfl ?_
          refine w_gf dX9_strain_89 rfl hJ.1.1 zs_386 (zr_386_61 hJ.1) ?_
          refine w_lo dX9_strain_92 rfl rfl rfl rfl ?_
          refine w_ia dX9_strain_94 hJ.1.1 zs_430 (znat (by omega)) f31 ?_
          refine w_puI dX9_strain_95 rfl rfl ?_
          intro x39
          refine w_gt dX9_strain_96 (t := 100) rfl ?_
          refine w_lo (ml' := [some (.ref 386), some (.int v75_1), some (.int x39), some (.int s75_0), some (.int v75_4), some (.int u75_5)]) dX9_strain_100 rfl rfl rfl rfl ?_
          refine w_inc (kk := 4) dX9_strain_101 rfl (m := -1) (by decide) (by omega) ?_
          intro x40 h41
          refine ⟨_, rfl, ?_⟩
          show ZW _ _ _ _ _ _ _ (104, [some (.ref 386), some (.int v75_1), some (.int x39), some (.int s75_0), some (.int x40), some (.int u75_5)], [], M)
          refine w_gt dX9_strain_104 (t := 12) rfl ?_
          exact ih12 M v75_1 x39 s75_0 x40 (some (.int u75_5)) hJ (by omega) (by omega) (zbot _) (ztop _) (zbot _) (ztop _) (by omega) (by omega) (by omega)
        · skip
          refine w_cle_t dX9_strain_84 (t := 99) rfl (by omega) ?_
          refine w_ic dX9_strain_99 zi_0 ?_
          refine w_lo (ml' := [some (.ref 386), some (.int v75_1), some (.int 0), some (.int s75_0), some (.int v75_4), some (.int u75_5)]) dX9_strain_100 rfl rfl rfl rfl ?_
          refine w_inc (kk := 4) dX9_strain_101 rfl (m := -1) (by decide) (by omega) ?_
          intro x42 h43
          refine ⟨_, rfl, ?_⟩
          show ZW _ _ _ _ _ _ _ (104, [some (.ref 386), some (.int v75_1), some (.int 0), some (.int s75_0), some (.int x42), some (.int u75_5)], [], M)
          refine w_gt dX9_strain_104 (t := 12) rfl ?_
          exact ih12 M v75_1 0 s75_0 x42 (some (.int u75_5)) hJ (by omega) (by omega) (zbot _) (ztop _) (zbot _) (ztop _) (by omega) (by omega) (by have := zt_0; omega)
  obtain ⟨ih12, ih73, ih75⟩ := main 78
  show ZW _ _ _ _ _ _ _ (0, [some (.ref 386), some (.int a0), none, none, none, none], [], M0)
  refine w_ic dX9_strain_0 zi_0 ?_
  refine w_lo (ml' := [some (.ref 386), some (.int a0), some (.int 0), none, none, none]) dX9_strain_1 rfl rfl rfl rfl ?_
  refine w_ic dX9_strain_2 zi_0 ?_
  refine w_lo (ml' := [some (.ref 386), some (.int a0), some (.int 0), some (.int 0), none, none]) dX9_strain_3 rfl rfl rfl rfl ?_
  refine w_lo dX9_strain_4 rfl rfl rfl rfl ?_
  refine w_iv dX9_strain_5 rfl rfl (As := []) rfl rfl hJ0.1.1 zs_386 (Nat.le_of_ble_eq_true rfl) ?_
  refine ZV.of (ini := false) rfl (Nat.le_of_ble_eq_true rfl) (by decide +kernel) ?_
  show ZW _ _ _ _ _ _ _ (0, [some (.ref 386)], [], M0)
  refine w_lo dX9_many_0 rfl rfl rfl rfl ?_
  refine w_gf dX9_many_1 rfl hJ0.1.1 zs_386 (zr_386_13 hJ0.1) ?_
  refine w_lo dX9_many_4 rfl rfl rfl rfl ?_
  refine w_gfi dX9_many_5 rfl hJ0.1 zs_386 (Nat.le_of_ble_eq_true rfl) zo_386_12 ?_
  intro x44 f45 h46 h47
  refine w_iai dX9_many_8 hJ0.1 zs_388 (by omega) (by omega) zu_388 ?_
  intro x51 f48 h49 h50
  refine w_eni dX9_many_9 rfl rfl ?_
  show ZW _ _ _ _ _ _ _ (8, [some (.ref 386), some (.int a0), some (.int 0), some (.int 0), none, none], [.int x51], M0)
  refine w_ic dX9_strain_8 zi_2 ?_
  refine w_sub dX9_strain_9 (by have := zt_2; omega) ?_
  intro x52 h53
  have := zt_2
  refine w_lo (ml' := [some (.ref 386), some (.int a0), some (.int 0), some (.int 0), some (.int x52), none]) dX9_strain_10 rfl rfl rfl rfl ?_
  exact ih12 M0 a0 0 0 x52 none hJ0 (by omega) (by omega) (zbot _) (ztop _) (zbot _) (ztop _) (by omega) (by omega) (by have := zt_0; have := zt_0; omega)
set_option maxRecDepth 100000 in
theorem k_2356 {X : List Int32} {d N : Nat} {M0 : zM} (a0 : Int32) (a1 : Int32) (hN : N ≤ 600) (hB0 : zB N M0) : ZV X (d + 3) 2356 [.ref 386, .int a0, .int a1] M0 (zRI N [] M0 (-2147483648) (2147483647) (fun _ _ => True)) := by
  have hJ0 : zJ N [] M0 M0 := zJ_refl hB0
  refine ZV.of (ini := false) rfl (Nat.le_of_ble_eq_true rfl) (by decide +kernel) ?_
  show ZW _ _ _ _ _ _ _ (0, [some (.ref 386), some (.int a0), some (.int a1)], [], M0)
  refine w_lo dX9_knot_0 rfl rfl rfl rfl ?_
  refine w_lo dX9_knot_1 rfl rfl rfl rfl ?_
  refine w_iv dX9_knot_2 rfl rfl (As := [.int a0]) rfl rfl hJ0.1.1 zs_386 (Nat.le_of_ble_eq_true rfl) ?_
  refine ZV.of (ini := false) rfl (Nat.le_of_ble_eq_true rfl) (by decide +kernel) ?_
  show ZW _ _ _ _ _ _ _ (0, [some (.ref 386), some (.int a0)], [], M0)
  refine w_lo dX9_isKnot_0 rfl rfl rfl rfl ?_
  rcases zcut a0.toInt (0 : Int) with h1 | h1
  · skip
    refine w_ilt_t dX9_isKnot_1 (t := 23) rfl (by omega) ?_
    refine w_ic dX9_isKnot_23 zi_0 ?_
    refine w_en dX9_isKnot_24 rfl ?_
    show ZW _ _ _ _ _ _ _ (5, [some (.ref 386), some (.int a0), some (.int a1)], [.int 0], M0)
    refine w_ine_f dX9_knot_5 (t := 12) rfl (by have := zt_0; omega) ?_
    refine w_ic dX9_knot_8 zi_m1 ?_
    refine w_gt dX9_knot_9 (t := 53) rfl ?_
    refine w_en dX9_knot_53 rfl ?_
    exact ⟨_, _, rfl, (zbot _), (ztop _), hJ0, trivial⟩
  · skip
    refine w_ilt_f dX9_isKnot_1 (t := 23) rfl (by omega) ?_
    refine w_lo dX9_isKnot_4 rfl rfl rfl rfl ?_
    refine w_lo dX9_isKnot_5 rfl rfl rfl rfl ?_
    refine w_gf dX9_isKnot_6 rfl hJ0.1.1 zs_386 (zr_386_13 hJ0.1) ?_
    refine w_lo dX9_isKnot_9 rfl rfl rfl rfl ?_
    refine w_gfi dX9_isKnot_10 rfl hJ0.1 zs_386 (Nat.le_of_ble_eq_true rfl) zo_386_12 ?_
    intro x2 f3 h4 h5
    refine w_iai dX9_isKnot_13 hJ0.1 zs_388 (by omega) (by omega) zu_388 ?_
    intro x9 f6 h7 h8
    refine w_ic dX9_isKnot_14 zi_1 ?_
    refine w_sub dX9_isKnot_15 (by have := zt_1; omega) ?_
    intro x10 h11
    have := zt_1
    rcases zcut a0.toInt x10.toInt with h12 | h12
    · skip
      refine w_cge_f dX9_isKnot_16 (t := 23) rfl (by omega) ?_
      refine w_ic dX9_isKnot_19 zi_1 ?_
      refine w_gt dX9_isKnot_20 (t := 24) rfl ?_
      refine w_en dX9_isKnot_24 rfl ?_
      show ZW _ _ _ _ _ _ _ (5, [some (.ref 386), some (.int a0), some (.int a1)], [.int 1], M0)
      refine w_ine_t dX9_knot_5 (t := 12) rfl (by have := zt_1; omega) ?_
      refine w_lo dX9_knot_12 rfl rfl rfl rfl ?_
      rcases Int.decEq a1.toInt (0 : Int) with h13 | h13
      · skip
        refine w_ine_t dX9_knot_13 (t := 25) rfl (by omega) ?_
        refine w_lo dX9_knot_25 rfl rfl rfl rfl ?_
        refine w_ic dX9_knot_26 zi_1 ?_
        rcases Int.decEq a1.toInt (1 : Int) with h14 | h14
        · skip
          refine w_cne_t dX9_knot_27 (t := 39) rfl (by have := zt_1; omega) ?_
          refine w_lo dX9_knot_39 rfl rfl rfl rfl ?_
          refine w_ic dX9_knot_40 zi_2 ?_
          rcases Int.decEq a1.toInt (2 : Int) with h15 | h15
          · skip
            refine w_cne_t dX9_knot_41 (t := 52) rfl (by have := zt_2; omega) ?_
            refine w_ic dX9_knot_52 zi_m1 ?_
            refine w_en dX9_knot_53 rfl ?_
            exact ⟨_, _, rfl, (zbot _), (ztop _), hJ0, trivial⟩
          · skip
            refine w_cne_f dX9_knot_41 (t := 52) rfl (by have := zt_2; omega) ?_
            refine w_lo dX9_knot_44 rfl rfl rfl rfl ?_
            refine w_lo dX9_knot_45 rfl rfl rfl rfl ?_
            refine w_iv dX9_knot_46 rfl rfl (As := [.int a0]) rfl rfl hJ0.1.1 zs_386 (Nat.le_of_ble_eq_true rfl) ?_
            refine ZV.imp (k_2358 a0 (by omega) (by omega) hN hJ0.1) ?_
            rintro _ ⟨x19, M16, rfl, h20, h21, hJ17, hq18⟩
            have hJ22 := zJ_trans hJ0 hJ17 zSub_nil
            show ZW _ _ _ _ _ _ _ (49, [some (.ref 386), some (.int a0), some (.int a1)], [.int x19], M16)
            refine w_gt dX9_knot_49 (t := 53) rfl ?_
            refine w_eni dX9_knot_53 rfl rfl ?_
            exact ⟨_, _, rfl, (zbot _), (ztop _), hJ22, trivial⟩
        · skip
          refine w_cne_f dX9_knot_27 (t := 39) rfl (by have := zt_1; omega) ?_
          refine w_lo dX9_knot_30 rfl rfl rfl rfl ?_
          refine w_gf dX9_knot_31 rfl hJ0.1.1 zs_386 (zr_386_61 hJ0.1) ?_
          refine w_lo dX9_knot_34 rfl rfl rfl rfl ?_
          refine w_iai dX9_knot_35 hJ0.1 zs_430 (by omega) (by omega) zu_430 ?_
          intro x26 f23 h24 h25
          refine w_gt dX9_knot_36 (t := 53) rfl ?_
          refine w_eni dX9_knot_53 rfl rfl ?_
          exact ⟨_, _, rfl, (zbot _), (ztop _), hJ0, trivial⟩
      · skip
        refine w_ine_f dX9_knot_13 (t := 25) rfl (by omega) ?_
        refine w_lo dX9_knot_16 rfl rfl rfl rfl ?_
        refine w_gf dX9_knot_17 rfl hJ0.1.1 zs_386 (zr_386_60 hJ0.1) ?_
        refine w_lo dX9_knot_20 rfl rfl rfl rfl ?_
        refine w_iai dX9_knot_21 hJ0.1 zs_429 (by omega) (by omega) zu_429 ?_
        intro x30 f27 h28 h29
        refine w_gt dX9_knot_22 (t := 53) rfl ?_
        refine w_eni dX9_knot_53 rfl rfl ?_
        exact ⟨_, _, rfl, (zbot _), (ztop _), hJ0, trivial⟩
    · skip
      refine w_cge_t dX9_isKnot_16 (t := 23) rfl (by omega) ?_
      refine w_ic dX9_isKnot_23 zi_0 ?_
      refine w_en dX9_isKnot_24 rfl ?_
      show ZW _ _ _ _ _ _ _ (5, [some (.ref 386), some (.int a0), some (.int a1)], [.int 0], M0)
      refine w_ine_f dX9_knot_5 (t := 12) rfl (by have := zt_0; omega) ?_
      refine w_ic dX9_knot_8 zi_m1 ?_
      refine w_gt dX9_knot_9 (t := 53) rfl ?_
      refine w_en dX9_knot_53 rfl ?_
      exact ⟨_, _, rfl, (zbot _), (ztop _), hJ0, trivial⟩
set_option maxRecDepth 100000 in
theorem k_2359 {X : List Int32} {d N : Nat} {M0 : zM} (a0 : Int32) (a1 : Int32) (hN : N ≤ 600) (hB0 : zB N M0) : ZV X (d + 2) 2359 [.ref 386, .int a0, .int a1] M0 (zRI N [] M0 (-2147483648) (2147483647) (fun _ _ => True)) := by
  have hJ0 : zJ N [] M0 M0 := zJ_refl hB0
  refine ZV.of (ini := false) rfl (Nat.le_of_ble_eq_true rfl) (by decide +kernel) ?_
  have main : ∀ n : Nat,
      (∀ (M : zM) (v109_1 : Int32) (u109_2 : Int32) (v109_3 : Int32) (v109_4 : Int32), zJ N [] M0 M → ((0 : Int) ≤ v109_1.toInt) → (v109_1.toInt ≤ 5) → ((-2147483648 : Int) ≤ v109_3.toInt) → (v109_3.toInt ≤ 2147483647) → ((0 : Int) ≤ v109_4.toInt) → (v109_4.toInt ≤ 12) → 3 * (12 - v109_4.toInt) + 1 < (n : Int) → ZW X (d + 1) 9 false (some .int) cX9_dream (zRI N [] M0 (-2147483648) (2147483647) (fun _ _ => True)) (109, [some (.ref 386), some (.int v109_1), some (.int u109_2), some (.int v109_3), some (.int v109_4)], [], M)) := by
    intro n
    induction n with
    | zero =>
      exact (fun M v109_1 u109_2 v109_3 v109_4 hJ v109_10 v109_11 v109_30 v109_31 v109_40 v109_41 hn => absurd hn (by omega))
    | succ n ih =>
      have ih109 := ih
      · intro M v109_1 u109_2 v109_3 v109_4 hJ v109_10 v109_11 v109_30 v109_31 v109_40 v109_41 hn
        refine w_lo dX9_dream_109 rfl rfl rfl rfl ?_
        refine w_lo dX9_dream_111 rfl rfl rfl rfl ?_
        refine w_iv dX9_dream_112 rfl rfl (As := []) rfl rfl hJ.1.1 zs_386 (Nat.le_of_ble_eq_true rfl) ?_
        refine ZV.of (ini := false) rfl (Nat.le_of_ble_eq_true rfl) (by decide +kernel) ?_
        show ZW _ _ _ _ _ _ _ (0, [some (.ref 386)], [], M)
        refine w_lo dX9_many_0 rfl rfl rfl rfl ?_
        refine w_gf dX9_many_1 rfl hJ.1.1 zs_386 (zr_386_13 hJ.1) ?_
        refine w_lo dX9_many_4 rfl rfl rfl rfl ?_
        refine w_gfi dX9_many_5 rfl hJ.1 zs_386 (Nat.le_of_ble_eq_true rfl) zo_386_12 ?_
        intro x1 f2 h3 h4
        refine w_iai dX9_many_8 hJ.1 zs_388 (by omega) (by omega) zu_388 ?_
        intro x8 f5 h6 h7
        refine w_eni dX9_many_9 rfl rfl ?_
        show ZW _ _ _ _ _ _ _ (115, [some (.ref 386), some (.int v109_1), some (.int u109_2), some (.int v109_3), some (.int v109_4)], [.int x8, .int v109_4], M)
        rcases zcut v109_4.toInt x8.toInt with h9 | h9
        · skip
          refine w_cge_f dX9_dream_115 (t := 143) rfl (by omega) ?_
          refine w_lo dX9_dream_118 rfl rfl rfl rfl ?_
          refine w_lo dX9_dream_119 rfl rfl rfl rfl ?_
          refine w_gf dX9_dream_120 rfl hJ.1.1 zs_386 (zr_386_52 hJ.1) ?_
          refine w_lo dX9_dream_123 rfl rfl rfl rfl ?_
          refine w_iai dX9_dream_125 hJ.1 zs_421 (by omega) (by omega) zu_421 ?_
          intro x13 f10 h11 h12
          refine w_lo dX9_dream_126 rfl rfl rfl rfl ?_
          rcases Int.decEq x13.toInt v109_1.toInt with h14 | h14
          · skip
            refine w_cne_t dX9_dream_127 (t := 134) rfl (by omega) ?_
            refine w_ic dX9_dream_134 zi_0 ?_
            refine w_add dX9_dream_135 (by have := zt_0; omega) ?_
            intro x15 h16
            have := zt_0
            refine w_lo (ml' := [some (.ref 386), some (.int v109_1), some (.int u109_2), some (.int x15), some (.int v109_4)]) dX9_dream_136 rfl rfl rfl rfl ?_
            refine w_inc (kk := 4) dX9_dream_137 rfl (m := 1) (by decide) (by omega) ?_
            intro x17 h18
            refine ⟨_, rfl, ?_⟩
            show ZW _ _ _ _ _ _ _ (140, [some (.ref 386), some (.int v109_1), some (.int u109_2), some (.int x15), some (.int x17)], [], M)
            refine w_gt dX9_dream_140 (t := 109) rfl ?_
            exact ih109 M v109_1 u109_2 x15 x17 hJ (by omega) (by omega) (zbot _) (ztop _) (by omega) (by omega) (by omega)
          · skip
            refine w_cne_f dX9_dream_127 (t := 134) rfl (by omega) ?_
            refine w_ic dX9_dream_130 zi_1 ?_
            refine w_gt dX9_dream_131 (t := 135) rfl ?_
            refine w_puI dX9_dream_135 rfl rfl ?_
            intro x19
            refine w_lo (ml' := [some (.ref 386), some (.int v109_1), some (.int u109_2), some (.int x19), some (.int v109_4)]) dX9_dream_136 rfl rfl rfl rfl ?_
            refine w_inc (kk := 4) dX9_dream_137 rfl (m := 1) (by decide) (by omega) ?_
            intro x20 h21
            refine ⟨_, rfl, ?_⟩
            show ZW _ _ _ _ _ _ _ (140, [some (.ref 386), some (.int v109_1), some (.int u109_2), some (.int x19), some (.int x20)], [], M)
            refine w_gt dX9_dream_140 (t := 109) rfl ?_
            exact ih109 M v109_1 u109_2 x19 x20 hJ (by omega) (by omega) (zbot _) (ztop _) (by omega) (by omega) (by omega)
        · skip
          refine w_cge_t dX9_dream_115 (t := 143) rfl (by omega) ?_
          refine w_lo dX9_dream_143 rfl rfl rfl rfl ?_
          refine w_eni dX9_dream_144 rfl rfl ?_
          exact ⟨_, _, rfl, (zbot _), (ztop _), hJ, trivial⟩
  have ih109 := main 48
  show ZW _ _ _ _ _ _ _ (0, [some (.ref 386), some (.int a0), some (.int a1), none, none], [], M0)
  refine w_lo dX9_dream_0 rfl rfl rfl rfl ?_
  refine w_lo dX9_dream_1 rfl rfl rfl rfl ?_
  refine w_iv dX9_dream_2 rfl rfl (As := [.int a0]) rfl rfl hJ0.1.1 zs_386 (Nat.le_of_ble_eq_true rfl) ?_
  refine ZV.of (ini := false) rfl (Nat.le_of_ble_eq_true rfl) (by decide +kernel) ?_
  show ZW _ _ _ _ _ _ _ (0, [some (.ref 386), some (.int a0)], [], M0)
  refine w_lo dX9_isDream_0 rfl rfl rfl rfl ?_
  rcases zcut a0.toInt (0 : Int) with h22 | h22
  · skip
    refine w_ilt_t dX9_isDream_1 (t := 21) rfl (by omega) ?_
    refine w_ic dX9_isDream_21 zi_0 ?_
    refine w_en dX9_isDream_22 rfl ?_
    show ZW _ _ _ _ _ _ _ (5, [some (.ref 386), some (.int a0), some (.int a1), none, none], [.int 0], M0)
    refine w_ine_f dX9_dream_5 (t := 10) rfl (by have := zt_0; omega) ?_
    refine w_ic dX9_dream_8 zi_m1 ?_
    refine w_en dX9_dream_9 rfl ?_
    exact ⟨_, _, rfl, (zbot _), (ztop _), hJ0, trivial⟩
  · skip
    refine w_ilt_f dX9_isDream_1 (t := 21) rfl (by omega) ?_
    refine w_lo dX9_isDream_4 rfl rfl rfl rfl ?_
    refine w_lo dX9_isDream_5 rfl rfl rfl rfl ?_
    refine w_gf dX9_isDream_6 rfl hJ0.1.1 zs_386 (zr_386_21 hJ0.1) ?_
    refine w_lo dX9_isDream_9 rfl rfl rfl rfl ?_
    refine w_gfi dX9_isDream_10 rfl hJ0.1 zs_386 (Nat.le_of_ble_eq_true rfl) zo_386_12 ?_
    intro x23 f24 h25 h26
    refine w_iai dX9_isDream_13 hJ0.1 zs_396 (by omega) (by omega) zu_396 ?_
    intro x30 f27 h28 h29
    rcases zcut a0.toInt x30.toInt with h31 | h31
    · skip
      refine w_cge_f dX9_isDream_14 (t := 21) rfl (by omega) ?_
      refine w_ic dX9_isDream_17 zi_1 ?_
      refine w_gt dX9_isDream_18 (t := 22) rfl ?_
      refine w_en dX9_isDream_22 rfl ?_
      show ZW _ _ _ _ _ _ _ (5, [some (.ref 386), some (.int a0), some (.int a1), none, none], [.int 1], M0)
      refine w_ine_t dX9_dream_5 (t := 10) rfl (by have := zt_1; omega) ?_
      refine w_lo dX9_dream_10 rfl rfl rfl rfl ?_
      rcases Int.decEq a1.toInt (0 : Int) with h32 | h32
      rotate_left
      · skip
        refine w_ts dX9_dream_11 (t := 44) (j := 0) h32 (by decide) ?_
        refine w_lo dX9_dream_44 rfl rfl rfl rfl ?_
        refine w_gf dX9_dream_45 rfl hJ0.1.1 zs_386 (zr_386_23 hJ0.1) ?_
        refine w_bi dX9_dream_48 (c := 6) (by decide) ?_
        refine w_lo dX9_dream_50 rfl rfl rfl rfl ?_
        refine w_gf dX9_dream_51 rfl hJ0.1.1 zs_386 f24 ?_
        refine w_mulc dX9_dream_54 zt_6 (by have := zt_6; omega) ?_
        intro x33 h34
        have := zt_6
        refine w_lo dX9_dream_55 rfl rfl rfl rfl ?_
        refine w_add dX9_dream_56 (by omega) ?_
        intro x35 h36
        refine w_iai dX9_dream_57 hJ0.1 zs_398 (by omega) (by omega) zu_398 ?_
        intro x40 f37 h38 h39
        refine w_eni dX9_dream_58 rfl rfl ?_
        exact ⟨_, _, rfl, (zbot _), (ztop _), hJ0, trivial⟩
      rcases Int.decEq a1.toInt (1 : Int) with h41 | h41
      rotate_left
      · skip
        refine w_ts dX9_dream_11 (t := 59) (j := 1) h41 (by decide) ?_
        refine w_lo dX9_dream_59 rfl rfl rfl rfl ?_
        refine w_gf dX9_dream_60 rfl hJ0.1.1 zs_386 (zr_386_24 hJ0.1) ?_
        refine w_bi dX9_dream_63 (c := 6) (by decide) ?_
        refine w_lo dX9_dream_65 rfl rfl rfl rfl ?_
        refine w_gf dX9_dream_66 rfl hJ0.1.1 zs_386 f24 ?_
        refine w_mulc dX9_dream_69 zt_6 (by have := zt_6; omega) ?_
        intro x42 h43
        have := zt_6
        refine w_lo dX9_dream_70 rfl rfl rfl rfl ?_
        refine w_add dX9_dream_71 (by omega) ?_
        intro x44 h45
        refine w_iai dX9_dream_72 hJ0.1 zs_399 (by omega) (by omega) zu_399 ?_
        intro x49 f46 h47 h48
        refine w_eni dX9_dream_73 rfl rfl ?_
        exact ⟨_, _, rfl, (zbot _), (ztop _), hJ0, trivial⟩
      rcases Int.decEq a1.toInt (2 : Int) with h50 | h50
      rotate_left
      · skip
        refine w_ts dX9_dream_11 (t := 74) (j := 2) h50 (by decide) ?_
        refine w_lo dX9_dream_74 rfl rfl rfl rfl ?_
        refine w_gf dX9_dream_75 rfl hJ0.1.1 zs_386 (zr_386_25 hJ0.1) ?_
        refine w_bi dX9_dream_78 (c := 6) (by decide) ?_
        refine w_lo dX9_dream_80 rfl rfl rfl rfl ?_
        refine w_gf dX9_dream_81 rfl hJ0.1.1 zs_386 f24 ?_
        refine w_mulc dX9_dream_84 zt_6 (by have := zt_6; omega) ?_
        intro x51 h52
        have := zt_6
        refine w_lo dX9_dream_85 rfl rfl rfl rfl ?_
        refine w_add dX9_dream_86 (by omega) ?_
        intro x53 h54
        refine w_iai dX9_dream_87 hJ0.1 zs_400 (by omega) (by omega) zu_400 ?_
        intro x58 f55 h56 h57
        refine w_eni dX9_dream_88 rfl rfl ?_
        exact ⟨_, _, rfl, (zbot _), (ztop _), hJ0, trivial⟩
      rcases Int.decEq a1.toInt (3 : Int) with h59 | h59
      rotate_left
      · skip
        refine w_ts dX9_dream_11 (t := 89) (j := 3) h59 (by decide) ?_
        refine w_lo dX9_dream_89 rfl rfl rfl rfl ?_
        refine w_gf dX9_dream_90 rfl hJ0.1.1 zs_386 (zr_386_26 hJ0.1) ?_
        refine w_bi dX9_dream_93 (c := 6) (by decide) ?_
        refine w_lo dX9_dream_95 rfl rfl rfl rfl ?_
        refine w_gf dX9_dream_96 rfl hJ0.1.1 zs_386 f24 ?_
        refine w_mulc dX9_dream_99 zt_6 (by have := zt_6; omega) ?_
        intro x60 h61
        have := zt_6
        refine w_lo dX9_dream_100 rfl rfl rfl rfl ?_
        refine w_add dX9_dream_101 (by omega) ?_
        intro x62 h63
        refine w_iai dX9_dream_102 hJ0.1 zs_401 (by omega) (by omega) zu_401 ?_
        intro x67 f64 h65 h66
        refine w_eni dX9_dream_103 rfl rfl ?_
        exact ⟨_, _, rfl, (zbot _), (ztop _), hJ0, trivial⟩
      rcases Int.decEq a1.toInt (4 : Int) with h68 | h68
      rotate_left
      · skip
        refine w_ts dX9_dream_11 (t := 104) (j := 4) h68 (by decide) ?_
        refine w_ic dX9_dream_104 zi_0 ?_
        refine w_lo (ml' := [some (.ref 386), some (.int a0), some (.int a1), some (.int 0), none]) dX9_dream_105 rfl rfl rfl rfl ?_
        refine w_ic dX9_dream_106 zi_0 ?_
        refine w_lo (ml' := [some (.ref 386), some (.int a0), some (.int a1), some (.int 0), some (.int 0)]) dX9_dream_107 rfl rfl rfl rfl ?_
        exact ih109 M0 a0 a1 0 0 hJ0 (by omega) (by omega) (zbot _) (ztop _) (by have := zt_0; omega) (by have := zt_0; omega) (by have := zt_0; have := zt_0; omega)
      refine w_td dX9_dream_11 (t := 145) (by omega) rfl ?_
      refine w_ic dX9_dream_145 zi_m1 ?_
      refine w_en dX9_dream_146 rfl ?_
      exact ⟨_, _, rfl, (zbot _), (ztop _), hJ0, trivial⟩
    · skip
      refine w_cge_t dX9_isDream_14 (t := 21) rfl (by omega) ?_
      refine w_ic dX9_isDream_21 zi_0 ?_
      refine w_en dX9_isDream_22 rfl ?_
      show ZW _ _ _ _ _ _ _ (5, [some (.ref 386), some (.int a0), some (.int a1), none, none], [.int 0], M0)
      refine w_ine_f dX9_dream_5 (t := 10) rfl (by have := zt_0; omega) ?_
      refine w_ic dX9_dream_8 zi_m1 ?_
      refine w_en dX9_dream_9 rfl ?_
      exact ⟨_, _, rfl, (zbot _), (ztop _), hJ0, trivial⟩
set_option maxRecDepth 100000 in
theorem k_2361 {X : List Int32} {d N : Nat} {M0 : zM} (a0 : Int32) (a1 : Int32) (hN : N ≤ 600) (hB0 : zB N M0) : ZV X (d + 2) 2361 [.ref 386, .int a0, .int a1] M0 (zRI N [] M0 (-2147483648) (2147483647) (fun _ _ => True)) := by
  have hJ0 : zJ N [] M0 M0 := zJ_refl hB0
  refine ZV.of (ini := false) rfl (Nat.le_of_ble_eq_true rfl) (by decide +kernel) ?_
  show ZW _ _ _ _ _ _ _ (0, [some (.ref 386), some (.int a0), some (.int a1)], [], M0)
  refine w_lo dX9_tug_0 rfl rfl rfl rfl ?_
  refine w_ic dX9_tug_1 zi_0 ?_
  refine w_lo dX9_tug_2 rfl rfl rfl rfl ?_
  refine w_gf dX9_tug_3 rfl hJ0.1.1 zs_386 (zr_386_62 hJ0.1) ?_
  refine w_ic dX9_tug_6 zi_0 ?_
  refine w_iai dX9_tug_7 hJ0.1 zs_431 (by have := zt_0; omega) (by have := zt_0; omega) zu_431 ?_
  intro x4 f1 h2 h3
  refine w_ic dX9_tug_8 zi_1 ?_
  refine w_sub dX9_tug_9 (by have := zt_1; omega) ?_
  intro x5 h6
  have := zt_1
  refine w_ss dX9_tug_10 rfl rfl (As := [.int a0, .int 0, .int x5]) rfl rfl (Nat.le_of_ble_eq_true rfl) ?_
  refine ZV.of (ini := false) rfl (Nat.le_of_ble_eq_true rfl) (by decide +kernel) ?_
  show ZW _ _ _ _ _ _ _ (0, [some (.int a0), some (.int 0), some (.int x5)], [], M0)
  refine w_lo dX9_is_0 rfl rfl rfl rfl ?_
  refine w_lo dX9_is_1 rfl rfl rfl rfl ?_
  rcases zcut a0.toInt (0 : Int) with h7 | h7
  · skip
    refine w_clt_t dX9_is_2 (t := 14) rfl (by have := zt_0; omega) ?_
    refine w_ic dX9_is_14 zi_0 ?_
    refine w_en dX9_is_15 rfl ?_
    show ZW _ _ _ _ _ _ _ (13, [some (.ref 386), some (.int a0), some (.int a1)], [.int 0], M0)
    refine w_ieq_t dX9_tug_13 (t := 38) rfl (by have := zt_0; omega) ?_
    refine w_ic dX9_tug_38 zi_m1 ?_
    refine w_en dX9_tug_39 rfl ?_
    exact ⟨_, _, rfl, (zbot _), (ztop _), hJ0, trivial⟩
  · skip
    refine w_clt_f dX9_is_2 (t := 14) rfl (by have := zt_0; omega) ?_
    refine w_lo dX9_is_5 rfl rfl rfl rfl ?_
    refine w_lo dX9_is_6 rfl rfl rfl rfl ?_
    rcases zcut x5.toInt a0.toInt with h8 | h8
    · skip
      refine w_cgt_t dX9_is_7 (t := 14) rfl (by omega) ?_
      refine w_ic dX9_is_14 zi_0 ?_
      refine w_en dX9_is_15 rfl ?_
      show ZW _ _ _ _ _ _ _ (13, [some (.ref 386), some (.int a0), some (.int a1)], [.int 0], M0)
      refine w_ieq_t dX9_tug_13 (t := 38) rfl (by have := zt_0; omega) ?_
      refine w_ic dX9_tug_38 zi_m1 ?_
      refine w_en dX9_tug_39 rfl ?_
      exact ⟨_, _, rfl, (zbot _), (ztop _), hJ0, trivial⟩
    · skip
      refine w_cgt_f dX9_is_7 (t := 14) rfl (by omega) ?_
      refine w_ic dX9_is_10 zi_1 ?_
      refine w_gt dX9_is_11 (t := 15) rfl ?_
      refine w_en dX9_is_15 rfl ?_
      show ZW _ _ _ _ _ _ _ (13, [some (.ref 386), some (.int a0), some (.int a1)], [.int 1], M0)
      refine w_ieq_f dX9_tug_13 (t := 38) rfl (by have := zt_1; omega) ?_
      refine w_lo dX9_tug_16 rfl rfl rfl rfl ?_
      refine w_ic dX9_tug_17 zi_0 ?_
      refine w_ic dX9_tug_18 zi_4 ?_
      refine w_ss dX9_tug_19 rfl rfl (As := [.int a1, .int 0, .int 4]) rfl rfl (Nat.le_of_ble_eq_true rfl) ?_
      refine ZV.of (ini := false) rfl (Nat.le_of_ble_eq_true rfl) (by decide +kernel) ?_
      show ZW _ _ _ _ _ _ _ (0, [some (.int a1), some (.int 0), some (.int 4)], [], M0)
      refine w_lo dX9_is_0 rfl rfl rfl rfl ?_
      refine w_lo dX9_is_1 rfl rfl rfl rfl ?_
      rcases zcut a1.toInt (0 : Int) with h9 | h9
      · skip
        refine w_clt_t dX9_is_2 (t := 14) rfl (by have := zt_0; omega) ?_
        refine w_ic dX9_is_14 zi_0 ?_
        refine w_en dX9_is_15 rfl ?_
        show ZW _ _ _ _ _ _ _ (22, [some (.ref 386), some (.int a0), some (.int a1)], [.int 0], M0)
        refine w_ieq_t dX9_tug_22 (t := 38) rfl (by have := zt_0; omega) ?_
        refine w_ic dX9_tug_38 zi_m1 ?_
        refine w_en dX9_tug_39 rfl ?_
        exact ⟨_, _, rfl, (zbot _), (ztop _), hJ0, trivial⟩
      · skip
        refine w_clt_f dX9_is_2 (t := 14) rfl (by have := zt_0; omega) ?_
        refine w_lo dX9_is_5 rfl rfl rfl rfl ?_
        refine w_lo dX9_is_6 rfl rfl rfl rfl ?_
        rcases zcut (4 : Int) a1.toInt with h10 | h10
        · skip
          refine w_cgt_t dX9_is_7 (t := 14) rfl (by have := zt_4; omega) ?_
          refine w_ic dX9_is_14 zi_0 ?_
          refine w_en dX9_is_15 rfl ?_
          show ZW _ _ _ _ _ _ _ (22, [some (.ref 386), some (.int a0), some (.int a1)], [.int 0], M0)
          refine w_ieq_t dX9_tug_22 (t := 38) rfl (by have := zt_0; omega) ?_
          refine w_ic dX9_tug_38 zi_m1 ?_
          refine w_en dX9_tug_39 rfl ?_
          exact ⟨_, _, rfl, (zbot _), (ztop _), hJ0, trivial⟩
        · skip
          refine w_cgt_f dX9_is_7 (t := 14) rfl (by have := zt_4; omega) ?_
          refine w_ic dX9_is_10 zi_1 ?_
          refine w_gt dX9_is_11 (t := 15) rfl ?_
          refine w_en dX9_is_15 rfl ?_
          show ZW _ _ _ _ _ _ _ (22, [some (.ref 386), some (.int a0), some (.int a1)], [.int 1], M0)
          refine w_ieq_f dX9_tug_22 (t := 38) rfl (by have := zt_1; omega) ?_
          refine w_lo dX9_tug_25 rfl rfl rfl rfl ?_
          refine w_gf dX9_tug_26 rfl hJ0.1.1 zs_386 (zr_386_63 hJ0.1) ?_
          refine w_ic dX9_tug_29 zi_5 ?_
          refine w_lo dX9_tug_30 rfl rfl rfl rfl ?_
          refine w_mulc dX9_tug_31 zt_5 (by have := zt_5; omega) ?_
          intro x11 h12
          have := zt_5
          refine w_lo dX9_tug_32 rfl rfl rfl rfl ?_
          refine w_add dX9_tug_33 (by omega) ?_
          intro x13 h14
          refine w_iai dX9_tug_34 hJ0.1 zs_432 (by omega) (by omega) zu_432 ?_
          intro x18 f15 h16 h17
          refine w_gt dX9_tug_35 (t := 39) rfl ?_
          refine w_eni dX9_tug_39 rfl rfl ?_
          exact ⟨_, _, rfl, (zbot _), (ztop _), hJ0, trivial⟩
set_option maxRecDepth 100000 in
theorem k_2363 {X : List Int32} {d N : Nat} {M0 : zM} (a0 : Int32) (ha00 : (0 : Int) ≤ a0.toInt) (ha01 : a0.toInt ≤ 1) (hN : N ≤ 600) (hB0 : zB N M0) : ZV X (d + 2) 2363 [.ref 386, .int a0] M0 (zRV N [(434, 435, 1000), (386, 387, 70), (386, 387, 71), (386, 387, 72)] M0 (fun _ => True)) := by
  have hJ0 : zJ N [(434, 435, 1000), (386, 387, 70), (386, 387, 71), (386, 387, 72)] M0 M0 := zJ_refl hB0
  refine ZV.of (ini := false) rfl (Nat.le_of_ble_eq_true rfl) (by decide +kernel) ?_
  have main : ∀ n : Nat,
      (∀ (M : zM) (v20_1 : Int32) (v20_2 : Int32), zJ N [(434, 435, 1000), (386, 387, 70), (386, 387, 71), (386, 387, 72)] M0 M → ((0 : Int) ≤ v20_1.toInt) → (v20_1.toInt ≤ 1) → ((0 : Int) ≤ v20_2.toInt) → (v20_2.toInt ≤ 12) → 3 * (12 - v20_2.toInt) + 1 < (n : Int) → ZW X (d + 1) 9 false none cX9_rowNow (zRV N [(434, 435, 1000), (386, 387, 70), (386, 387, 71), (386, 387, 72)] M0 (fun _ => True)) (20, [some (.ref 386), some (.int v20_1), some (.int v20_2)], [], M)) := by
    intro n
    induction n with
    | zero =>
      exact (fun M v20_1 v20_2 hJ v20_10 v20_11 v20_20 v20_21 hn => absurd hn (by omega))
    | succ n ih =>
      have ih20 := ih
      · intro M v20_1 v20_2 hJ v20_10 v20_11 v20_20 v20_21 hn
        refine w_lo dX9_rowNow_20 rfl rfl rfl rfl ?_
        refine w_lo dX9_rowNow_21 rfl rfl rfl rfl ?_
        refine w_gfi dX9_rowNow_22 rfl hJ.1 zs_386 (Nat.le_of_ble_eq_true rfl) zo_386_70 ?_
        intro x1 f2 h3 h4
        rcases zcut v20_2.toInt x1.toInt with h5 | h5
        · skip
          refine w_cge_f dX9_rowNow_25 (t := 51) rfl (by omega) ?_
          refine w_lo dX9_rowNow_28 rfl rfl rfl rfl ?_
          refine w_gf dX9_rowNow_29 rfl hJ.1.1 zs_386 (zr_386_69 hJ.1) ?_
          refine w_lo dX9_rowNow_32 rfl rfl rfl rfl ?_
          refine w_lo dX9_rowNow_33 rfl rfl rfl rfl ?_
          refine w_gf dX9_rowNow_34 rfl hJ.1.1 zs_386 (zr_386_50 hJ.1) ?_
          refine w_bi dX9_rowNow_37 (c := 12) (by decide) ?_
          refine w_lo dX9_rowNow_39 rfl rfl rfl rfl ?_
          refine w_mulc dX9_rowNow_40 zt_12 (by have := zt_12; omega) ?_
          intro x6 h7
          have := zt_12
          refine w_lo dX9_rowNow_41 rfl rfl rfl rfl ?_
          refine w_add dX9_rowNow_42 (by omega) ?_
          intro x8 h9
          refine w_iai dX9_rowNow_43 hJ.1 zs_419 (by omega) (by omega) zu_419 ?_
          intro x13 f10 h11 h12
          refine w_isi dX9_rowNow_44 hJ zs_434 (by omega) (by omega) zu_434 (by omega) (by omega) (zIR_a (by omega) (by omega)) ?_
          intro M14 hJ15 f16 hn17
          refine w_inc (kk := 2) dX9_rowNow_45 rfl (m := 1) (by decide) (by omega) ?_
          intro x18 h19
          refine ⟨_, rfl, ?_⟩
          show ZW _ _ _ _ _ _ _ (48, [some (.ref 386), some (.int v20_1), some (.int x18)], [], M14)
          refine w_gt dX9_rowNow_48 (t := 20) rfl ?_
          exact ih20 M14 v20_1 x18 hJ15 (by omega) (by omega) (by omega) (by omega) (by omega)
        · skip
          refine w_cge_t dX9_rowNow_25 (t := 51) rfl (by omega) ?_
          refine w_en dX9_rowNow_51 rfl ?_
          exact ⟨_, rfl, hJ, trivial⟩
  have ih20 := main 48
  show ZW _ _ _ _ _ _ _ (0, [some (.ref 386), some (.int a0), none], [], M0)
  refine w_lo dX9_rowNow_0 rfl rfl rfl rfl ?_
  refine w_lo dX9_rowNow_1 rfl rfl rfl rfl ?_
  refine w_iv dX9_rowNow_2 rfl rfl (As := []) rfl rfl hJ0.1.1 zs_386 (Nat.le_of_ble_eq_true rfl) ?_
  refine ZV.of (ini := false) rfl (Nat.le_of_ble_eq_true rfl) (by decide +kernel) ?_
  show ZW _ _ _ _ _ _ _ (0, [some (.ref 386)], [], M0)
  refine w_lo dX9_many_0 rfl rfl rfl rfl ?_
  refine w_gf dX9_many_1 rfl hJ0.1.1 zs_386 (zr_386_13 hJ0.1) ?_
  refine w_lo dX9_many_4 rfl rfl rfl rfl ?_
  refine w_gfi dX9_many_5 rfl hJ0.1 zs_386 (Nat.le_of_ble_eq_true rfl) zo_386_12 ?_
  intro x20 f21 h22 h23
  refine w_iai dX9_many_8 hJ0.1 zs_388 (by omega) (by omega) zu_388 ?_
  intro x27 f24 h25 h26
  refine w_eni dX9_many_9 rfl rfl ?_
  show ZW _ _ _ _ _ _ _ (5, [some (.ref 386), some (.int a0), none], [.int x27, .ref 386], M0)
  refine w_pfi dX9_rowNow_5 rfl hJ0 zs_386 (Nat.le_of_ble_eq_true rfl) zo_386_70 (by omega) (by omega) (zIR_s (zIR_k (by omega) (by omega))) rfl rfl rfl ?_
  intro M28 hJ29 f30 hn31
  refine w_lo dX9_rowNow_8 rfl rfl rfl rfl ?_
  refine w_ic dX9_rowNow_9 zi_0 ?_
  refine w_pfi dX9_rowNow_10 rfl hJ29 zs_386 (Nat.le_of_ble_eq_true rfl) zo_386_71 (by have := zt_0; omega) (by have := zt_0; omega) (zIR_s (zIR_s (zIR_k (by omega) (by omega)))) rfl rfl rfl ?_
  intro M32 hJ33 f34 hn35
  refine w_lo dX9_rowNow_13 rfl rfl rfl rfl ?_
  refine w_lo dX9_rowNow_14 rfl rfl rfl rfl ?_
  refine w_pfi dX9_rowNow_15 rfl hJ33 zs_386 (Nat.le_of_ble_eq_true rfl) zo_386_72 (by omega) (by omega) (zIR_s (zIR_s (zIR_s (zIR_k (by omega) (by omega))))) rfl rfl rfl ?_
  intro M36 hJ37 f38 hn39
  refine w_ic dX9_rowNow_18 zi_0 ?_
  refine w_lo (ml' := [some (.ref 386), some (.int a0), some (.int 0)]) dX9_rowNow_19 rfl rfl rfl rfl ?_
  exact ih20 M36 a0 0 hJ37 (by omega) (by omega) (by have := zt_0; omega) (by have := zt_0; omega) (by have := zt_0; omega)
