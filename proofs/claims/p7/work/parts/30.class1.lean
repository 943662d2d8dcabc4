/-! the class's methods come to an end, within the box (wip/safe/mks.py) -/
set_option maxRecDepth 100000 in
theorem k_1 {X : List Int32} {d N : Nat} {M0 : zM}  (hN : N ≤ 600) (hB0 : zB N M0) : ZV X (d + 1) 1 [.ref 77] M0 (zRV N [(77, 78, 0)] M0 (fun _ => True)) := by
  have hJ0 : zJ N [(77, 78, 0)] M0 M0 := zJ_refl hB0
  refine ZV.of (ini := false) rfl (Nat.le_of_ble_eq_true rfl) (by decide +kernel) ?_
  show ZW _ _ _ _ _ _ _ (0, [some (.ref 77)], [], M0)
  refine w_lo dX0_forget_0 rfl rfl rfl rfl ?_
  refine w_ic dX0_forget_1 zi_0 ?_
  refine w_pfi dX0_forget_2 rfl hJ0 zs_77 (Nat.le_of_ble_eq_true rfl) zo_77_0 (by have := zt_0; omega) (by have := zt_0; omega) (zIR_k (by omega) (by omega)) rfl rfl rfl ?_
  intro M1 hJ2 f3 hn4
  refine w_en dX0_forget_5 rfl ?_
  exact ⟨_, rfl, hJ2, trivial⟩
set_option maxRecDepth 100000 in
theorem k_1537 {X : List Int32} {d N : Nat} {M0 : zM} (t : Nat) (ht : zRp t) (p0 : Nat) (hp0 : zDm p0) (hN : N ≤ 600) (hB0 : zB N M0) : ZV X (d + 1) 1537 [.ref t, .ref p0] M0 (zRV N [(t, t + 1, 0), (t, t + 1, 1), (t + 1, t + 13, 1000), (t, t + 1, 14)] M0 (fun _ => True)) := by
  have hbp0 := zDm_b hp0
  have hbt := zRp_b ht
  have hJ0 : zJ N [(t, t + 1, 0), (t, t + 1, 1), (t + 1, t + 13, 1000), (t, t + 1, 14)] M0 M0 := zJ_refl hB0
  refine ZV.of (ini := false) rfl (Nat.le_of_ble_eq_true rfl) (by decide +kernel) ?_
  have main : ∀ n : Nat,
      (∀ (M : zM) (v20_2 : Int32), zJ N [(t, t + 1, 0), (t, t + 1, 1), (t + 1, t + 13, 1000), (t, t + 1, 14)] M0 M → ((0 : Int) ≤ v20_2.toInt) → (v20_2.toInt ≤ 12) → 4 * (12 - v20_2.toInt) + 54 < (n : Int) → ZW X (d + 0) 6 false none cX6_begin (zRV N [(t, t + 1, 0), (t, t + 1, 1), (t + 1, t + 13, 1000), (t, t + 1, 14)] M0 (fun _ => True)) (20, [some (.ref t), some (.ref p0), some (.int v20_2)], [], M)) ∧
      (∀ (M : zM) (v104_2 : Int32), zJ N [(t, t + 1, 0), (t, t + 1, 1), (t + 1, t + 13, 1000), (t, t + 1, 14)] M0 M → ((0 : Int) ≤ v104_2.toInt) → (v104_2.toInt ≤ 11) → 4 * (11 - v104_2.toInt) + 1 < (n : Int) → ZW X (d + 0) 6 false none cX6_begin (zRV N [(t, t + 1, 0), (t, t + 1, 1), (t + 1, t + 13, 1000), (t, t + 1, 14)] M0 (fun _ => True)) (104, [some (.ref t), some (.ref p0), some (.int v104_2)], [], M)) := by
    intro n
    induction n with
    | zero =>
      exact ⟨(fun M v20_2 hJ v20_20 v20_21 hn => absurd hn (by omega)), (fun M v104_2 hJ v104_20 v104_21 hn => absurd hn (by omega))⟩
    | succ n ih =>
      obtain ⟨ih20, ih104⟩ := ih
      refine ⟨?_, ?_⟩
      · intro M v20_2 hJ v20_20 v20_21 hn
        refine w_lo dX6_begin_20 rfl rfl rfl rfl ?_
        refine w_bi dX6_begin_21 (c := 12) (by decide) ?_
        rcases zcut v20_2.toInt (12 : Int) with h1 | h1
        · skip
          refine w_cge_f dX6_begin_23 (t := 102) rfl (by have := zt_12; omega) ?_
          refine w_lo dX6_begin_26 rfl rfl rfl rfl ?_
          refine w_gf dX6_begin_27 rfl hJ.1.1 (zs_6_0 ht) (zr_6_0_2 ht hJ.1) ?_
          refine w_lo dX6_begin_30 rfl rfl rfl rfl ?_
          refine w_lo dX6_begin_31 rfl rfl rfl rfl ?_
          refine w_isi dX6_begin_32 hJ (zs_6_1 ht) (by omega) (by omega) (zu_6_1 ht) (by omega) (by omega) (zIR_s (zIR_s (zIR_a (by omega) (by omega)))) ?_
          intro M2 hJ3 f4 hn5
          refine w_lo dX6_begin_33 rfl rfl rfl rfl ?_
          refine w_gf dX6_begin_34 rfl hJ3.1.1 (zs_6_0 ht) (zr_6_0_3 ht hJ3.1) ?_
          refine w_lo dX6_begin_37 rfl rfl rfl rfl ?_
          refine w_ic dX6_begin_38 zi_1 ?_
          refine w_bsi dX6_begin_39 hJ3 (zs_6_2 ht) (by omega) (by omega) (zu_6_2 ht) (by have := zt_1; omega) (by have := zt_1; omega) (zIR_s (zIR_s (zIR_a (by omega) (by omega)))) ?_
          intro M6 hJ7 f8 hn9
          refine w_lo dX6_begin_40 rfl rfl rfl rfl ?_
          refine w_gf dX6_begin_41 rfl hJ7.1.1 (zs_6_0 ht) (zr_6_0_4 ht hJ7.1) ?_
          refine w_lo dX6_begin_44 rfl rfl rfl rfl ?_
          refine w_ic dX6_begin_45 zi_m1 ?_
          refine w_isi dX6_begin_46 hJ7 (zs_6_3 ht) (by omega) (by omega) (zu_6_3 ht) (by have := zt_m1; omega) (by have := zt_m1; omega) (zIR_s (zIR_s (zIR_a (by omega) (by omega)))) ?_
          intro M10 hJ11 f12 hn13
          refine w_lo dX6_begin_47 rfl rfl rfl rfl ?_
          refine w_gf dX6_begin_48 rfl hJ11.1.1 (zs_6_0 ht) (zr_6_0_5 ht hJ11.1) ?_
          refine w_lo dX6_begin_51 rfl rfl rfl rfl ?_
          refine w_ic dX6_begin_52 zi_0 ?_
          refine w_isi dX6_begin_53 hJ11 (zs_6_4 ht) (by omega) (by omega) (zu_6_4 ht) (zbot _) (ztop _) (zIR_s (zIR_s (zIR_a (by omega) (by omega)))) ?_
          intro M14 hJ15 f16 hn17
          refine w_lo dX6_begin_54 rfl rfl rfl rfl ?_
          refine w_gf dX6_begin_55 rfl hJ15.1.1 (zs_6_0 ht) (zr_6_0_6 ht hJ15.1) ?_
          refine w_lo dX6_begin_58 rfl rfl rfl rfl ?_
          refine w_ic dX6_begin_59 zi_m1 ?_
          refine w_isi dX6_begin_60 hJ15 (zs_6_5 ht) (by omega) (by omega) (zu_6_5 ht) (by have := zt_m1; omega) (by have := zt_m1; omega) (zIR_s (zIR_s (zIR_a (by omega) (by omega)))) ?_
          intro M18 hJ19 f20 hn21
          refine w_lo dX6_begin_61 rfl rfl rfl rfl ?_
          refine w_gf dX6_begin_62 rfl hJ19.1.1 (zs_6_0 ht) (zr_6_0_7 ht hJ19.1) ?_
          refine w_lo dX6_begin_65 rfl rfl rfl rfl ?_
          refine w_ic dX6_begin_66 zi_0 ?_
          refine w_isi dX6_begin_67 hJ19 (zs_6_6 ht) (by omega) (by omega) (zu_6_6 ht) (zbot _) (ztop _) (zIR_s (zIR_s (zIR_a (by omega) (by omega)))) ?_
          intro M22 hJ23 f24 hn25
          refine w_lo dX6_begin_68 rfl rfl rfl rfl ?_
          refine w_gf dX6_begin_69 rfl hJ23.1.1 (zs_6_0 ht) (zr_6_0_8 ht hJ23.1) ?_
          refine w_lo dX6_begin_72 rfl rfl rfl rfl ?_
          refine w_ic dX6_begin_73 zi_m1 ?_
          refine w_isi dX6_begin_74 hJ23 (zs_6_7 ht) (by omega) (by omega) (zu_6_7 ht) (by have := zt_m1; omega) (by have := zt_m1; omega) (zIR_s (zIR_s (zIR_a (by omega) (by omega)))) ?_
          intro M26 hJ27 f28 hn29
          refine w_lo dX6_begin_75 rfl rfl rfl rfl ?_
          refine w_gf dX6_begin_76 rfl hJ27.1.1 (zs_6_0 ht) (zr_6_0_9 ht hJ27.1) ?_
          refine w_lo dX6_begin_79 rfl rfl rfl rfl ?_
          refine w_ic dX6_begin_80 zi_0 ?_
          refine w_isi dX6_begin_81 hJ27 (zs_6_8 ht) (by omega) (by omega) (zu_6_8 ht) (zbot _) (ztop _) (zIR_s (zIR_s (zIR_a (by omega) (by omega)))) ?_
          intro M30 hJ31 f32 hn33
          refine w_lo dX6_begin_82 rfl rfl rfl rfl ?_
          refine w_gf dX6_begin_83 rfl hJ31.1.1 (zs_6_0 ht) (zr_6_0_10 ht hJ31.1) ?_
          refine w_lo dX6_begin_86 rfl rfl rfl rfl ?_
          refine w_ic dX6_begin_87 zi_0 ?_
          refine w_isi dX6_begin_88 hJ31 (zs_6_9 ht) (by omega) (by omega) (zu_6_9 ht) (by have := zt_0; omega) (ztop _) (zIR_s (zIR_s (zIR_a (by omega) (by omega)))) ?_
          intro M34 hJ35 f36 hn37
          refine w_lo dX6_begin_89 rfl rfl rfl rfl ?_
          refine w_gf dX6_begin_90 rfl hJ35.1.1 (zs_6_0 ht) (zr_6_0_11 ht hJ35.1) ?_
          refine w_lo dX6_begin_93 rfl rfl rfl rfl ?_
          refine w_ic dX6_begin_94 zi_0 ?_
          refine w_isi dX6_begin_95 hJ35 (zs_6_10 ht) (by omega) (by omega) (zu_6_10 ht) (zbot _) (by have := zt_0; omega) (zIR_s (zIR_s (zIR_a (by omega) (by omega)))) ?_
          intro M38 hJ39 f40 hn41
          refine w_inc (kk := 2) dX6_begin_96 rfl (m := 1) (by decide) (by omega) ?_
          intro x42 h43
          refine ⟨_, rfl, ?_⟩
          show ZW _ _ _ _ _ _ _ (99, [some (.ref t), some (.ref p0), some (.int x42)], [], M38)
          refine w_gt dX6_begin_99 (t := 20) rfl ?_
          exact ih20 M38 x42 hJ39 (by omega) (by omega) (by omega)
        · skip
          refine w_cge_t dX6_begin_23 (t := 102) rfl (by have := zt_12; omega) ?_
          refine w_ic dX6_begin_102 zi_0 ?_
          refine w_lo (ml' := [some (.ref t), some (.ref p0), some (.int 0)]) dX6_begin_103 rfl rfl rfl rfl ?_
          exact ih104 M 0 hJ (by have := zt_0; omega) (by have := zt_0; omega) (by have := zt_0; omega)
      · intro M v104_2 hJ v104_20 v104_21 hn
        refine w_lo dX6_begin_104 rfl rfl rfl rfl ?_
        refine w_bi dX6_begin_105 (c := 11) (by decide) ?_
        rcases zcut v104_2.toInt (11 : Int) with h44 | h44
        · skip
          refine w_cge_f dX6_begin_107 (t := 135) rfl (by have := zt_11; omega) ?_
          refine w_lo dX6_begin_110 rfl rfl rfl rfl ?_
          refine w_gf dX6_begin_111 rfl hJ.1.1 (zs_6_0 ht) (zr_6_0_12 ht hJ.1) ?_
          refine w_lo dX6_begin_114 rfl rfl rfl rfl ?_
          refine w_ic dX6_begin_115 zi_1 ?_
          refine w_bsi dX6_begin_116 hJ (zs_6_11 ht) (by omega) (by omega) (zu_6_11 ht) (by have := zt_1; omega) (by have := zt_1; omega) (zIR_s (zIR_s (zIR_a (by omega) (by omega)))) ?_
          intro M45 hJ46 f47 hn48
          refine w_lo dX6_begin_117 rfl rfl rfl rfl ?_
          refine w_gf dX6_begin_118 rfl hJ46.1.1 (zs_6_0 ht) (zr_6_0_13 ht hJ46.1) ?_
          refine w_lo dX6_begin_121 rfl rfl rfl rfl ?_
          refine w_lo dX6_begin_122 rfl rfl rfl rfl ?_
          refine w_gf dX6_begin_123 rfl hJ46.1.1 (zs_1_0 hp0) (zr_1_0_14 hp0 hJ46.1) ?_
          refine w_lo dX6_begin_126 rfl rfl rfl rfl ?_
          refine w_iai dX6_begin_127 hJ46.1 (zs_1_12 hp0) (by omega) (by omega) (zu_1_12 hp0) ?_
          intro x52 f49 h50 h51
          refine w_isi dX6_begin_128 hJ46 (zs_6_12 ht) (by omega) (by omega) (zu_6_12 ht) (by omega) (by omega) (zIR_s (zIR_s (zIR_a (by omega) (by omega)))) ?_
          intro M53 hJ54 f55 hn56
          refine w_inc (kk := 2) dX6_begin_129 rfl (m := 1) (by decide) (by omega) ?_
          intro x57 h58
          refine ⟨_, rfl, ?_⟩
          show ZW _ _ _ _ _ _ _ (132, [some (.ref t), some (.ref p0), some (.int x57)], [], M53)
          refine w_gt dX6_begin_132 (t := 104) rfl ?_
          exact ih104 M53 x57 hJ54 (by omega) (by omega) (by omega)
        · skip
          refine w_cge_t dX6_begin_107 (t := 135) rfl (by have := zt_11; omega) ?_
          refine w_en dX6_begin_135 rfl ?_
          exact ⟨_, rfl, hJ, trivial⟩
  obtain ⟨ih20, ih104⟩ := main 115
  show ZW _ _ _ _ _ _ _ (0, [some (.ref t), some (.ref p0), none], [], M0)
  refine w_lo dX6_begin_0 rfl rfl rfl rfl ?_
  refine w_lo dX6_begin_1 rfl rfl rfl rfl ?_
  refine w_gfi dX6_begin_2 rfl hJ0.1 (zs_1_0 hp0) (Nat.le_of_ble_eq_true rfl) (zo_1_0_1 hp0) ?_
  intro x59 f60 h61 h62
  refine w_pfi dX6_begin_5 rfl hJ0 (zs_6_0 ht) (Nat.le_of_ble_eq_true rfl) (zo_6_0_0 ht) (by omega) (by omega) (zIR_k (by omega) (by omega)) rfl rfl rfl ?_
  intro M63 hJ64 f65 hn66
  refine w_lo dX6_begin_8 rfl rfl rfl rfl ?_
  refine w_ic dX6_begin_9 zi_0 ?_
  refine w_pfi dX6_begin_10 rfl hJ64 (zs_6_0 ht) (Nat.le_of_ble_eq_true rfl) (zo_6_0_1 ht) (zbot _) (ztop _) (zIR_s (zIR_k (by omega) (by omega))) rfl rfl rfl ?_
  intro M67 hJ68 f69 hn70
  refine w_lo dX6_begin_13 rfl rfl rfl rfl ?_
  refine w_ic dX6_begin_14 zi_0 ?_
  refine w_pfc dX6_begin_15 rfl hJ68 (zs_6_0 ht) (Nat.le_of_ble_eq_true rfl) (zo_6_0_14 ht) (by have := zt_0; omega) (by have := zt_0; omega) (zIR_s (zIR_s (zIR_s (zIR_k (by omega) (by omega))))) rfl rfl rfl ?_
  intro M71 hJ72 f73 hn74
  refine w_ic dX6_begin_18 zi_0 ?_
  refine w_lo (ml' := [some (.ref t), some (.ref p0), some (.int 0)]) dX6_begin_19 rfl rfl rfl rfl ?_
  exact ih20 M71 0 hJ72 (by have := zt_0; omega) (by have := zt_0; omega) (by have := zt_0; omega)
set_option maxRecDepth 100000 in
theorem k_1543 {X : List Int32} {d N : Nat} {M0 : zM} (t : Nat) (ht : zRp t) (p0 : Nat) (hp0 : zRp p0) (hN : N ≤ 600) (hB0 : zB N M0) : ZV X (d + 1) 1543 [.ref t, .ref p0] M0 (zRV N [(t + 11, t + 13, 1000)] M0 (fun _ => True)) := by
  have hbp0 := zRp_b hp0
  have hbt := zRp_b ht
  have hJ0 : zJ N [(t + 11, t + 13, 1000)] M0 M0 := zJ_refl hB0
  refine ZV.of (ini := false) rfl (Nat.le_of_ble_eq_true rfl) (by decide +kernel) ?_
  show ZW _ _ _ _ _ _ _ (0, [some (.ref t), some (.ref p0)], [], M0)
  refine w_lo dX6_takeKnots_0 rfl rfl rfl rfl ?_
  refine w_gf dX6_takeKnots_1 rfl hJ0.1.1 (zs_6_0 hp0) (zr_6_0_12 hp0 hJ0.1) ?_
  refine w_ic dX6_takeKnots_4 zi_0 ?_
  refine w_lo dX6_takeKnots_5 rfl rfl rfl rfl ?_
  refine w_gf dX6_takeKnots_6 rfl hJ0.1.1 (zs_6_0 ht) (zr_6_0_12 ht hJ0.1) ?_
  refine w_ic dX6_takeKnots_9 zi_0 ?_
  refine w_bi dX6_takeKnots_10 (c := 11) (by decide) ?_
  refine w_cpG (kd := 12) (Or.inr ⟨rfl, rfl, rfl⟩) dX6_takeKnots_12 rfl (Nat.le_of_ble_eq_true rfl) hJ0 (zs_6_11 hp0) (zs_6_11 ht) zt_11 (Nat.le_of_ble_eq_true rfl) (Nat.le_of_ble_eq_true rfl) (zu_6_11 hp0) (zu_6_11 ht) (by decide) (by decide) (fun _ => (zIR_a (by omega) (by omega))) ?_
  intro M1 hJ2 hn3
  show ZW _ _ _ _ _ _ _ (15, [some (.ref t), some (.ref p0)], [], M1)
  refine w_lo dX6_takeKnots_15 rfl rfl rfl rfl ?_
  refine w_gf dX6_takeKnots_16 rfl hJ2.1.1 (zs_6_0 hp0) (zr_6_0_13 hp0 hJ2.1) ?_
  refine w_ic dX6_takeKnots_19 zi_0 ?_
  refine w_lo dX6_takeKnots_20 rfl rfl rfl rfl ?_
  refine w_gf dX6_takeKnots_21 rfl hJ2.1.1 (zs_6_0 ht) (zr_6_0_13 ht hJ2.1) ?_
  refine w_ic dX6_takeKnots_24 zi_0 ?_
  refine w_bi dX6_takeKnots_25 (c := 11) (by decide) ?_
  refine w_cpG (kd := 10) (Or.inl rfl) dX6_takeKnots_27 rfl (Nat.le_of_ble_eq_true rfl) hJ2 (zs_6_12 hp0) (zs_6_12 ht) zt_11 (Nat.le_of_ble_eq_true rfl) (Nat.le_of_ble_eq_true rfl) (zu_6_12 hp0) (zu_6_12 ht) (by decide) (by decide) (fun _ => (zIR_a (by omega) (by omega))) ?_
  intro M4 hJ5 hn6
  show ZW _ _ _ _ _ _ _ (30, [some (.ref t), some (.ref p0)], [], M4)
  refine w_en dX6_takeKnots_30 rfl ?_
  exact ⟨_, rfl, hJ5, trivial⟩
set_option maxRecDepth 100000 in
theorem k_1026 {X : List Int32} {d N : Nat} {M0 : zM} (p0 : Nat) (hp0 : zDm p0) (p1 : Nat) (hp1 : zRp p1) (hN : N ≤ 600) (hB0 : zB N M0) : ZV X (d + 2) 1026 [.ref 364, .ref p0, .ref p1] M0 (zRV N [(367, 368, 0), (367, 368, 1), (368, 380, 1000), (367, 368, 14)] M0 (fun _ => True)) := by
  have hbp0 := zDm_b hp0
  have hbp1 := zRp_b hp1
  have hJ0 : zJ N [(367, 368, 0), (367, 368, 1), (368, 380, 1000), (367, 368, 14)] M0 M0 := zJ_refl hB0
  refine ZV.of (ini := false) rfl (Nat.le_of_ble_eq_true rfl) (by decide +kernel) ?_
  show ZW _ _ _ _ _ _ _ (0, [some (.ref 364), some (.ref p0), some (.ref p1)], [], M0)
  refine w_lo dX4_begin_0 rfl rfl rfl rfl ?_
  refine w_gf dX4_begin_1 rfl hJ0.1.1 zs_364 (zr_364_10 hJ0.1) ?_
  refine w_lo dX4_begin_4 rfl rfl rfl rfl ?_
  refine w_iv dX4_begin_5 rfl rfl (As := [.ref p0]) rfl rfl hJ0.1.1 zs_367 (Nat.le_of_ble_eq_true rfl) ?_
  refine ZV.imp (k_1537 367 hb_6_367 p0 hp0 hN hJ0.1) ?_
  rintro _ ⟨M1, rfl, hJ2, hq3⟩
  have hJ4 := zJ_trans hJ0 hJ2 (zSub_cons (fun _ _ h h' hk => zIR_e (by omega) (by omega) hk) (zSub_cons (fun _ _ h h' hk => zIR_s (zIR_e (by omega) (by omega) hk)) (zSub_cons (fun _ _ h h' hk => zIR_s (zIR_s (zIR_a (by omega) (by omega)))) (zSub_cons (fun _ _ h h' hk => zIR_s (zIR_s (zIR_s (zIR_e (by omega) (by omega) hk)))) zSub_nil))))
  show ZW _ _ _ _ _ _ _ (8, [some (.ref 364), some (.ref p0), some (.ref p1)], [], M1)
  refine w_lo dX4_begin_8 rfl rfl rfl rfl ?_
  refine w_gf dX4_begin_9 rfl hJ4.1.1 zs_364 (zr_364_10 hJ4.1) ?_
  refine w_lo dX4_begin_12 rfl rfl rfl rfl ?_
  refine w_iv dX4_begin_13 rfl rfl (As := [.ref p1]) rfl rfl hJ4.1.1 zs_367 (Nat.le_of_ble_eq_true rfl) ?_
  refine ZV.imp (k_1543 367 hb_6_367 p1 hp1 hN hJ4.1) ?_
  rintro _ ⟨M5, rfl, hJ6, hq7⟩
  have hJ8 := zJ_trans hJ4 hJ6 (zSub_cons (fun _ _ h h' hk => zIR_s (zIR_s (zIR_a (by omega) (by omega)))) zSub_nil)
  show ZW _ _ _ _ _ _ _ (16, [some (.ref 364), some (.ref p0), some (.ref p1)], [], M5)
  refine w_en dX4_begin_16 rfl ?_
  exact ⟨_, rfl, hJ8, trivial⟩
set_option maxRecDepth 100000 in
theorem k_259 {X : List Int32} {d N : Nat} {M0 : zM} (t : Nat) (ht : zDm t) (a0 : Int32) (ha00 : (0 : Int) ≤ a0.toInt) (ha01 : a0.toInt ≤ 11) (hN : N ≤ 600) (hB0 : zB N M0) : ZV X (d + 1) 259 [.ref t, .int a0] M0 (zRI N [] M0 (0) (1) (fun _ _ => True)) := by
  have hbt := zDm_b ht
  have hJ0 : zJ N [] M0 M0 := zJ_refl hB0
  refine ZV.of (ini := false) rfl (Nat.le_of_ble_eq_true rfl) (by decide +kernel) ?_
  show ZW _ _ _ _ _ _ _ (0, [some (.ref t), some (.int a0)], [], M0)
  refine w_lo dX1_isSnorer_0 rfl rfl rfl rfl ?_
  refine w_gf dX1_isSnorer_1 rfl hJ0.1.1 (zs_1_0 ht) (zr_1_0_8 ht hJ0.1) ?_
  refine w_lo dX1_isSnorer_4 rfl rfl rfl rfl ?_
  refine w_iai dX1_isSnorer_5 hJ0.1 (zs_1_6 ht) (by omega) (by omega) (zu_1_6 ht) ?_
  intro x4 f1 h2 h3
  refine w_ic dX1_isSnorer_6 zi_1 ?_
  refine w_and dX1_isSnorer_7 (m := 1) zt_1 (by omega) ?_
  intro x5 h6 h7
  rcases Int.decEq x5.toInt (0 : Int) with h8 | h8
  · skip
    refine w_ieq_f dX1_isSnorer_8 (t := 15) rfl (by omega) ?_
    refine w_ic dX1_isSnorer_11 zi_1 ?_
    refine w_gt dX1_isSnorer_12 (t := 16) rfl ?_
    refine w_en dX1_isSnorer_16 rfl ?_
    exact ⟨_, _, rfl, (by have := zt_1; omega), (by have := zt_1; omega), hJ0, trivial⟩
  · skip
    refine w_ieq_t dX1_isSnorer_8 (t := 15) rfl (by omega) ?_
    refine w_ic dX1_isSnorer_15 zi_0 ?_
    refine w_en dX1_isSnorer_16 rfl ?_
    exact ⟨_, _, rfl, (by have := zt_0; omega), (by have := zt_0; omega), hJ0, trivial⟩
set_option maxRecDepth 100000 in
theorem k_1793 {X : List Int32} {d N : Nat} {M0 : zM} (t : Nat) (ht : zTg t) (p0 : Nat) (hp0 : zDm p0) (p1 : Nat) (hp1 : zRp p1) (a2 : Int32) (ha20 : (0 : Int) ≤ a2.toInt) (ha21 : a2.toInt ≤ 11) (a3 : Int32) (ha30 : (1 : Int) ≤ a3.toInt) (ha31 : a3.toInt ≤ 2147483647) (hN : N ≤ 600) (hB0 : zB N M0) : ZV X (d + 2) 1793 [.ref t, .ref p0, .ref p1, .int a2, .int a3] M0 (zRV N [(p0 + 20, p0 + 21, 1000)] M0 (fun _ => True)) := by
  have hbp0 := zDm_b hp0
  have hbp1 := zRp_b hp1
  have hbt := zTg_b ht
  have hJ0 : zJ N [(p0 + 20, p0 + 21, 1000)] M0 M0 := zJ_refl hB0
  refine ZV.of (ini := false) rfl (Nat.le_of_ble_eq_true rfl) (by decide +kernel) ?_
  have main : ∀ n : Nat,
      (∀ (M : zM) (o44_0 : Option Value) (v44_3 : Int32) (v44_4 : Int32) (v44_5 : Int32) (v44_6 : Int32) (o44_7 : Option Value), zJ N [(p0 + 20, p0 + 21, 1000)] M0 M → ((0 : Int) ≤ v44_3.toInt) → (v44_3.toInt ≤ 11) → ((1 : Int) ≤ v44_4.toInt) → (v44_4.toInt ≤ 2147483647) → ((0 : Int) ≤ v44_5.toInt) → (v44_5.toInt ≤ 11) → ((0 : Int) ≤ v44_6.toInt) → (v44_6.toInt ≤ 1) → 2 < (n : Int) → ZW X (d + 1) 7 false none cX7_look (zRV N [(p0 + 20, p0 + 21, 1000)] M0 (fun _ => True)) (44, [o44_0, some (.ref p0), some (.ref p1), some (.int v44_3), some (.int v44_4), some (.int v44_5), some (.int v44_6), o44_7], [], M)) ∧
      (∀ (M : zM) (o81_0 : Option Value) (v81_3 : Int32) (v81_4 : Int32) (v81_5 : Int32) (v81_6 : Int32) (o81_7 : Option Value), zJ N [(p0 + 20, p0 + 21, 1000)] M0 M → ((0 : Int) ≤ v81_3.toInt) → (v81_3.toInt ≤ 11) → ((1 : Int) ≤ v81_4.toInt) → (v81_4.toInt ≤ 2147483647) → ((0 : Int) ≤ v81_5.toInt) → (v81_5.toInt ≤ 11) → ((0 : Int) ≤ v81_6.toInt) → (v81_6.toInt ≤ 2) → 1 < (n : Int) → ZW X (d + 1) 7 false none cX7_look (zRV N [(p0 + 20, p0 + 21, 1000)] M0 (fun _ => True)) (81, [o81_0, some (.ref p0), some (.ref p1), some (.int v81_3), some (.int v81_4), some (.int v81_5), some (.int v81_6), o81_7], [], M)) := by
    intro n
    induction n with
    | zero =>
      exact ⟨(fun M o44_0 v44_3 v44_4 v44_5 v44_6 o44_7 hJ v44_30 v44_31 v44_40 v44_41 v44_50 v44_51 v44_60 v44_61 hn => absurd hn (by omega)), (fun M o81_0 v81_3 v81_4 v81_5 v81_6 o81_7 hJ v81_30 v81_31 v81_40 v81_41 v81_50 v81_51 v81_60 v81_61 hn => absurd hn (by omega))⟩
    | succ n ih =>
      obtain ⟨ih44, ih81⟩ := ih
      refine ⟨?_, ?_⟩
      · intro M o44_0 v44_3 v44_4 v44_5 v44_6 o44_7 hJ v44_30 v44_31 v44_40 v44_41 v44_50 v44_51 v44_60 v44_61 hn
        refine w_lo dX7_look_44 rfl rfl rfl rfl ?_
        refine w_ic dX7_look_45 zi_1 ?_
        refine w_add dX7_look_46 (by have := zt_1; omega) ?_
        intro x1 h2
        have := zt_1
        refine w_lo dX7_look_47 rfl rfl rfl rfl ?_
        refine w_gfi dX7_look_48 rfl hJ.1 (zs_6_0 hp1) (Nat.le_of_ble_eq_true rfl) (zo_6_0_0 hp1) ?_
        intro x3 f4 h5 h6
        rcases zcut x1.toInt x3.toInt with h7 | h7
        · skip
          refine w_cge_f dX7_look_51 (t := 81) rfl (by omega) ?_
          refine w_lo dX7_look_54 rfl rfl rfl rfl ?_
          refine w_gf dX7_look_55 rfl hJ.1.1 (zs_6_0 hp1) (zr_6_0_12 hp1 hJ.1) ?_
          refine w_lo dX7_look_58 rfl rfl rfl rfl ?_
          refine w_bai dX7_look_59 hJ.1 (zs_6_11 hp1) (by omega) (by omega) (zu_6_11 hp1) ?_
          intro x11 f8 h9 h10
          rcases Int.decEq x11.toInt (0 : Int) with h12 | h12
          · skip
            refine w_ieq_f dX7_look_60 (t := 81) rfl (by omega) ?_
            refine w_lo dX7_look_63 rfl rfl rfl rfl ?_
            refine w_lo dX7_look_64 rfl rfl rfl rfl ?_
            refine w_gf dX7_look_65 rfl hJ.1.1 (zs_6_0 hp1) (zr_6_0_2 hp1 hJ.1) ?_
            refine w_lo dX7_look_68 rfl rfl rfl rfl ?_
            refine w_ic dX7_look_69 zi_1 ?_
            refine w_add dX7_look_70 (by have := zt_1; omega) ?_
            intro x13 h14
            have := zt_1
            refine w_iai dX7_look_71 hJ.1 (zs_6_1 hp1) (by omega) (by omega) (zu_6_1 hp1) ?_
            intro x18 f15 h16 h17
            refine w_iv dX7_look_72 rfl rfl (As := [.int x18]) rfl rfl hJ.1.1 (zs_1_0 hp0) (Nat.le_of_ble_eq_true rfl) ?_
            refine ZV.imp (k_259 p0 hp0 x18 (by omega) (by omega) hN hJ.1) ?_
            rintro _ ⟨x22, M19, rfl, h23, h24, hJ20, hq21⟩
            have hJ25 := zJ_trans hJ hJ20 zSub_nil
            show ZW _ _ _ _ _ _ _ (75, [o44_0, some (.ref p0), some (.ref p1), some (.int v44_3), some (.int v44_4), some (.int v44_5), some (.int v44_6), o44_7], [.int x22], M19)
            rcases Int.decEq x22.toInt (0 : Int) with h26 | h26
            · skip
              refine w_ieq_f dX7_look_75 (t := 81) rfl (by omega) ?_
              refine w_inc (kk := 6) dX7_look_78 rfl (m := 1) (by decide) (by omega) ?_
              intro x27 h28
              refine ⟨_, rfl, ?_⟩
              show ZW _ _ _ _ _ _ _ (81, [o44_0, some (.ref p0), some (.ref p1), some (.int v44_3), some (.int v44_4), some (.int v44_5), some (.int x27), o44_7], [], M19)
              exact ih81 M19 o44_0 v44_3 v44_4 v44_5 x27 o44_7 hJ25 (by omega) (by omega) (by omega) (ztop _) (by omega) (by omega) (by omega) (by omega) (by omega)
            · skip
              refine w_ieq_t dX7_look_75 (t := 81) rfl (by omega) ?_
              exact ih81 M19 o44_0 v44_3 v44_4 v44_5 v44_6 o44_7 hJ25 (by omega) (by omega) (by omega) (ztop _) (by omega) (by omega) (by omega) (by omega) (by omega)
          · skip
            refine w_ieq_t dX7_look_60 (t := 81) rfl (by omega) ?_
            exact ih81 M o44_0 v44_3 v44_4 v44_5 v44_6 o44_7 hJ (by omega) (by omega) (by omega) (ztop _) (by omega) (by omega) (by omega) (by omega) (by omega)
        · skip
          refine w_cge_t dX7_look_51 (t := 81) rfl (by omega) ?_
          exact ih81 M o44_0 v44_3 v44_4 v44_5 v44_6 o44_7 hJ (by omega) (by omega) (by omega) (ztop _) (by omega) (by omega) (by omega) (by omega) (by omega)
      · intro M o81_0 v81_3 v81_4 v81_5 v81_6 o81_7 hJ v81_30 v81_31 v81_40 v81_41 v81_50 v81_51 v81_60 v81_61 hn
        refine w_lo dX7_look_81 rfl rfl rfl rfl ?_
        refine w_gf dX7_look_82 rfl hJ.1.1 (zs_1_0 hp0) (zr_1_0_15 hp0 hJ.1) ?_
        refine w_gf dX7_look_85 rfl hJ.1.1 (zs_1_13 hp0) (zr_1_13_8 hp0 hJ.1) ?_
        refine w_lo (ml' := [o81_0, some (.ref p0), some (.ref p1), some (.int v81_3), some (.int v81_4), some (.int v81_5), some (.int v81_6), some (.ref (p0 + 20))]) dX7_look_88 rfl rfl rfl rfl ?_
        refine w_lo dX7_look_90 rfl rfl rfl rfl ?_
        refine w_ic dX7_look_92 zi_0 ?_
        refine w_lo dX7_look_93 rfl rfl rfl rfl ?_
        refine w_isi dX7_look_95 hJ (zs_1_20 hp0) (by have := zt_0; omega) (by have := zt_0; omega) (zu_1_20 hp0) (zbot _) (ztop _) (zIR_a (by omega) (by omega)) ?_
        intro M29 hJ30 f31 hn32
        refine w_lo dX7_look_96 rfl rfl rfl rfl ?_
        refine w_ic dX7_look_98 zi_1 ?_
        refine w_lo dX7_look_99 rfl rfl rfl rfl ?_
        refine w_gf dX7_look_100 rfl hJ30.1.1 (zs_1_0 hp0) (zr_1_0_4 hp0 hJ30.1) ?_
        refine w_lo dX7_look_103 rfl rfl rfl rfl ?_
        refine w_iai dX7_look_105 hJ30.1 (zs_1_2 hp0) (by omega) (by omega) (zu_1_2 hp0) ?_
        intro x36 f33 h34 h35
        refine w_isi dX7_look_106 hJ30 (zs_1_20 hp0) (by have := zt_1; omega) (by have := zt_1; omega) (zu_1_20 hp0) (zbot _) (ztop _) (zIR_a (by omega) (by omega)) ?_
        intro M37 hJ38 f39 hn40
        refine w_lo dX7_look_107 rfl rfl rfl rfl ?_
        refine w_ic dX7_look_109 zi_2 ?_
        refine w_lo dX7_look_110 rfl rfl rfl rfl ?_
        refine w_gf dX7_look_111 rfl hJ38.1.1 (zs_1_0 hp0) (zr_1_0_5 hp0 hJ38.1) ?_
        refine w_lo dX7_look_114 rfl rfl rfl rfl ?_
        refine w_iai dX7_look_116 hJ38.1 (zs_1_3 hp0) (by omega) (by omega) (zu_1_3 hp0) ?_
        intro x44 f41 h42 h43
        refine w_isi dX7_look_117 hJ38 (zs_1_20 hp0) (by have := zt_2; omega) (by have := zt_2; omega) (zu_1_20 hp0) (zbot _) (ztop _) (zIR_a (by omega) (by omega)) ?_
        intro M45 hJ46 f47 hn48
        refine w_lo dX7_look_118 rfl rfl rfl rfl ?_
        refine w_ic dX7_look_120 zi_3 ?_
        refine w_lo dX7_look_121 rfl rfl rfl rfl ?_
        refine w_isi dX7_look_122 hJ46 (zs_1_20 hp0) (by have := zt_3; omega) (by have := zt_3; omega) (zu_1_20 hp0) (zbot _) (ztop _) (zIR_a (by omega) (by omega)) ?_
        intro M49 hJ50 f51 hn52
        refine w_lo dX7_look_123 rfl rfl rfl rfl ?_
        refine w_ic dX7_look_125 zi_4 ?_
        refine w_lo dX7_look_126 rfl rfl rfl rfl ?_
        refine w_gfi dX7_look_127 rfl hJ50.1 (zs_6_0 hp1) (Nat.le_of_ble_eq_true rfl) (zo_6_0_1 hp1) ?_
        intro x53 f54 h55 h56
        refine w_isi dX7_look_130 hJ50 (zs_1_20 hp0) (by have := zt_4; omega) (by have := zt_4; omega) (zu_1_20 hp0) (zbot _) (ztop _) (zIR_a (by omega) (by omega)) ?_
        intro M57 hJ58 f59 hn60
        refine w_lo dX7_look_131 rfl rfl rfl rfl ?_
        refine w_ic dX7_look_133 zi_5 ?_
        refine w_lo dX7_look_134 rfl rfl rfl rfl ?_
        refine w_isi dX7_look_136 hJ58 (zs_1_20 hp0) (by have := zt_5; omega) (by have := zt_5; omega) (zu_1_20 hp0) (zbot _) (ztop _) (zIR_a (by omega) (by omega)) ?_
        intro M61 hJ62 f63 hn64
        refine w_lo dX7_look_137 rfl rfl rfl rfl ?_
        refine w_bi dX7_look_139 (c := 6) (by decide) ?_
        refine w_lo dX7_look_141 rfl rfl rfl rfl ?_
        refine w_gf dX7_look_142 rfl hJ62.1.1 (zs_6_0 hp1) (zr_6_0_9 hp1 hJ62.1) ?_
        refine w_lo dX7_look_145 rfl rfl rfl rfl ?_
        refine w_iai dX7_look_147 hJ62.1 (zs_6_8 hp1) (by omega) (by omega) (zu_6_8 hp1) ?_
        intro x68 f65 h66 h67
        refine w_isi dX7_look_148 hJ62 (zs_1_20 hp0) (by have := zt_6; omega) (by have := zt_6; omega) (zu_1_20 hp0) (zbot _) (ztop _) (zIR_a (by omega) (by omega)) ?_
        intro M69 hJ70 f71 hn72
        refine w_en dX7_look_149 rfl ?_
        exact ⟨_, rfl, hJ70, trivial⟩
  obtain ⟨ih44, ih81⟩ := main 7
  show ZW _ _ _ _ _ _ _ (0, [some (.ref t), some (.ref p0), some (.ref p1), some (.int a2), some (.int a3), none, none, none], [], M0)
  refine w_lo dX7_look_0 rfl rfl rfl rfl ?_
  refine w_gf dX7_look_1 rfl hJ0.1.1 (zs_6_0 hp1) (zr_6_0_2 hp1 hJ0.1) ?_
  refine w_lo dX7_look_4 rfl rfl rfl rfl ?_
  refine w_iai dX7_look_5 hJ0.1 (zs_6_1 hp1) (by omega) (by omega) (zu_6_1 hp1) ?_
  intro x76 f73 h74 h75
  refine w_lo (ml' := [some (.ref t), some (.ref p0), some (.ref p1), some (.int a2), some (.int a3), some (.int x76), none, none]) dX7_look_6 rfl rfl rfl rfl ?_
  refine w_ic dX7_look_8 zi_0 ?_
  refine w_lo (ml' := [some (.ref t), some (.ref p0), some (.ref p1), some (.int a2), some (.int a3), some (.int x76), some (.int 0), none]) dX7_look_9 rfl rfl rfl rfl ?_
  refine w_lo dX7_look_11 rfl rfl rfl rfl ?_
  rcases zcut (0 : Int) a2.toInt with h77 | h77
  · skip
    refine w_ile_f dX7_look_12 (t := 44) rfl (by omega) ?_
    refine w_lo dX7_look_15 rfl rfl rfl rfl ?_
    refine w_gf dX7_look_16 rfl hJ0.1.1 (zs_6_0 hp1) (zr_6_0_12 hp1 hJ0.1) ?_
    refine w_lo dX7_look_19 rfl rfl rfl rfl ?_
    refine w_ic dX7_look_20 zi_1 ?_
    refine w_sub dX7_look_21 (by have := zt_1; omega) ?_
    intro x78 h79
    have := zt_1
    refine w_bai dX7_look_22 hJ0.1 (zs_6_11 hp1) (by omega) (by omega) (zu_6_11 hp1) ?_
    intro x83 f80 h81 h82
    rcases Int.decEq x83.toInt (0 : Int) with h84 | h84
    · skip
      refine w_ieq_f dX7_look_23 (t := 44) rfl (by omega) ?_
      refine w_lo dX7_look_26 rfl rfl rfl rfl ?_
      refine w_lo dX7_look_27 rfl rfl rfl rfl ?_
      refine w_gf dX7_look_28 rfl hJ0.1.1 (zs_6_0 hp1) (zr_6_0_2 hp1 hJ0.1) ?_
      refine w_lo dX7_look_31 rfl rfl rfl rfl ?_
      refine w_ic dX7_look_32 zi_1 ?_
      refine w_sub dX7_look_33 (by have := zt_1; omega) ?_
      intro x85 h86
      have := zt_1
      refine w_iai dX7_look_34 hJ0.1 (zs_6_1 hp1) (by omega) (by omega) (zu_6_1 hp1) ?_
      intro x90 f87 h88 h89
      refine w_iv dX7_look_35 rfl rfl (As := [.int x90]) rfl rfl hJ0.1.1 (zs_1_0 hp0) (Nat.le_of_ble_eq_true rfl) ?_
      refine ZV.imp (k_259 p0 hp0 x90 (by omega) (by omega) hN hJ0.1) ?_
      rintro _ ⟨x94, M91, rfl, h95, h96, hJ92, hq93⟩
      have hJ97 := zJ_trans hJ0 hJ92 zSub_nil
      show ZW _ _ _ _ _ _ _ (38, [some (.ref t), some (.ref p0), some (.ref p1), some (.int a2), some (.int a3), some (.int x76), some (.int 0), none], [.int x94], M91)
      rcases Int.decEq x94.toInt (0 : Int) with h98 | h98
      · skip
        refine w_ieq_f dX7_look_38 (t := 44) rfl (by omega) ?_
        refine w_lo (ml' := [some (.ref t), some (.ref p0), some (.ref p1), some (.int a2), some (.int a3), some (.int x76), some (.int 1), none]) dX7_look_41 rfl rfl rfl rfl ?_
        exact ih44 M91 (some (.ref t)) a2 a3 x76 1 none hJ97 (by omega) (by omega) (by omega) (ztop _) (by omega) (by omega) (by have := zt_1; omega) (by have := zt_1; omega) (by have := zt_1; omega)
      · skip
        refine w_ieq_t dX7_look_38 (t := 44) rfl (by omega) ?_
        exact ih44 M91 (some (.ref t)) a2 a3 x76 0 none hJ97 (by omega) (by omega) (by omega) (ztop _) (by omega) (by omega) (by have := zt_0; omega) (by have := zt_0; omega) (by have := zt_0; omega)
    · skip
      refine w_ieq_t dX7_look_23 (t := 44) rfl (by omega) ?_
      exact ih44 M0 (some (.ref t)) a2 a3 x76 0 none hJ0 (by omega) (by omega) (by omega) (ztop _) (by omega) (by omega) (by have := zt_0; omega) (by have := zt_0; omega) (by have := zt_0; omega)
  · skip
    refine w_ile_t dX7_look_12 (t := 44) rfl (by omega) ?_
    exact ih44 M0 (some (.ref t)) a2 a3 x76 0 none hJ0 (by omega) (by omega) (by omega) (ztop _) (by omega) (by omega) (by have := zt_0; omega) (by have := zt_0; omega) (by have := zt_0; omega)
set_option maxRecDepth 100000 in
theorem k_260 {X : List Int32} {d N : Nat} {M0 : zM} (t : Nat) (ht : zDm t) (a0 : Int32) (ha00 : (0 : Int) ≤ a0.toInt) (ha01 : a0.toInt ≤ 11) (hN : N ≤ 600) (hB0 : zB N M0) : ZV X (d + 1) 260 [.ref t, .int a0] M0 (zRI N [] M0 (0) (1) (fun _ _ => True)) := by
  have hbt := zDm_b ht
  have hJ0 : zJ N [] M0 M0 := zJ_refl hB0
  refine ZV.of (ini := false) rfl (Nat.le_of_ble_eq_true rfl) (by decide +kernel) ?_
  show ZW _ _ _ _ _ _ _ (0, [some (.ref t), some (.int a0)], [], M0)
  refine w_lo dX1_isGhost_0 rfl rfl rfl rfl ?_
  refine w_gf dX1_isGhost_1 rfl hJ0.1.1 (zs_1_0 ht) (zr_1_0_8 ht hJ0.1) ?_
  refine w_lo dX1_isGhost_4 rfl rfl rfl rfl ?_
  refine w_iai dX1_isGhost_5 hJ0.1 (zs_1_6 ht) (by omega) (by omega) (zu_1_6 ht) ?_
  intro x4 f1 h2 h3
  refine w_ic dX1_isGhost_6 zi_2 ?_
  refine w_and dX1_isGhost_7 (m := 2) zt_2 (by omega) ?_
  intro x5 h6 h7
  rcases Int.decEq x5.toInt (0 : Int) with h8 | h8
  · skip
    refine w_ieq_f dX1_isGhost_8 (t := 15) rfl (by omega) ?_
    refine w_ic dX1_isGhost_11 zi_1 ?_
    refine w_gt dX1_isGhost_12 (t := 16) rfl ?_
    refine w_en dX1_isGhost_16 rfl ?_
    exact ⟨_, _, rfl, (by have := zt_1; omega), (by have := zt_1; omega), hJ0, trivial⟩
  · skip
    refine w_ieq_t dX1_isGhost_8 (t := 15) rfl (by omega) ?_
    refine w_ic dX1_isGhost_15 zi_0 ?_
    refine w_en dX1_isGhost_16 rfl ?_
    exact ⟨_, _, rfl, (by have := zt_0; omega), (by have := zt_0; omega), hJ0, trivial⟩
set_option maxRecDepth 100000 in
theorem k_520 {X : List Int32} {d N : Nat} {M0 : zM} (a0 : Int32) (ha00 : (-2147483648 : Int) ≤ a0.toInt) (ha01 : a0.toInt ≤ -9) (a1 : Int32) (a2 : Int32) (hN : N ≤ 600) (hB0 : zB N M0) : ZV X (d + 1) 520 [.int a0, .int a1, .int a2] M0 (zRI N [] M0 (-2147483648) (2147483647) (fun _ _ => True)) := by
  have hJ0 : zJ N [] M0 M0 := zJ_refl hB0
  refine ZV.of (ini := false) rfl (Nat.le_of_ble_eq_true rfl) (by decide +kernel) ?_
  have main : ∀ n : Nat,
      (∀ (M : zM) (v11_0 : Int32) (v11_1 : Int32) (v11_2 : Int32) (o11_3 : Option Value) (o11_4 : Option Value) (o11_5 : Option Value) (s11_0 : Int32), zJ N [] M0 M → ((-2147483648 : Int) ≤ v11_0.toInt) → (v11_0.toInt ≤ -9) → ((-2147483648 : Int) ≤ v11_1.toInt) → (v11_1.toInt ≤ 2147483647) → ((-2147483648 : Int) ≤ v11_2.toInt) → (v11_2.toInt ≤ 2147483647) → ((-2147483648 : Int) ≤ s11_0.toInt) → (s11_0.toInt ≤ 2147483647) → 2 < (n : Int) → ZW X (d + 0) 2 false (some .int) cX2_joined (zRI N [] M0 (-2147483648) (2147483647) (fun _ _ => True)) (11, [some (.int v11_0), some (.int v11_1), some (.int v11_2), o11_3, o11_4, o11_5], [.int s11_0], M)) ∧
      (∀ (M : zM) (v41_0 : Int32) (v41_1 : Int32) (v41_2 : Int32) (v41_3 : Int32) (o41_4 : Option Value) (o41_5 : Option Value), zJ N [] M0 M → ((-2147483648 : Int) ≤ v41_0.toInt) → (v41_0.toInt ≤ -9) → ((-2147483648 : Int) ≤ v41_1.toInt) → (v41_1.toInt ≤ 2147483647) → ((-2147483648 : Int) ≤ v41_2.toInt) → (v41_2.toInt ≤ 2147483647) → ((-2147483648 : Int) ≤ v41_3.toInt) → (v41_3.toInt ≤ 2147483647) → 1 < (n : Int) → ZW X (d + 0) 2 false (some .int) cX2_joined (zRI N [] M0 (-2147483648) (2147483647) (fun _ _ => True)) (41, [some (.int v41_0), some (.int v41_1), some (.int v41_2), some (.int v41_3), o41_4, o41_5], [], M)) := by
    intro n
    induction n with
    | zero =>
      exact ⟨(fun M v11_0 v11_1 v11_2 o11_3 o11_4 o11_5 s11_0 hJ v11_00 v11_01 v11_10 v11_11 v11_20 v11_21 s11_00 s11_01 hn => absurd hn (by omega)), (fun M v41_0 v41_1 v41_2 v41_3 o41_4 o41_5 hJ v41_00 v41_01 v41_10 v41_11 v41_20 v41_21 v41_30 v41_31 hn => absurd hn (by omega))⟩
    | succ n ih =>
      obtain ⟨ih11, ih41⟩ := ih
      refine ⟨?_, ?_⟩
      · intro M v11_0 v11_1 v11_2 o11_3 o11_4 o11_5 s11_0 hJ v11_00 v11_01 v11_10 v11_11 v11_20 v11_21 s11_00 s11_01 hn
        refine w_lo (ml' := [some (.int v11_0), some (.int v11_1), some (.int v11_2), some (.int s11_0), o11_4, o11_5]) dX2_joined_11 rfl rfl rfl rfl ?_
        refine w_lo dX2_joined_12 rfl rfl rfl rfl ?_
        rcases Int.decEq s11_0.toInt (0 : Int) with h1 | h1
        · skip
          refine w_ieq_f dX2_joined_13 (t := 41) rfl (by omega) ?_
          refine w_lo dX2_joined_16 rfl rfl rfl rfl ?_
          rcases zcut s11_0.toInt (0 : Int) with h2 | h2
          · skip
            refine w_ige_f dX2_joined_17 (t := 24) rfl (by omega) ?_
            refine w_ic dX2_joined_20 zi_1 ?_
            refine w_gt dX2_joined_21 (t := 25) rfl ?_
            refine w_lo dX2_joined_25 rfl rfl rfl rfl ?_
            rcases zcut v11_2.toInt (0 : Int) with h3 | h3
            · skip
              refine w_ige_f dX2_joined_26 (t := 33) rfl (by omega) ?_
              refine w_ic dX2_joined_29 zi_1 ?_
              refine w_gt dX2_joined_30 (t := 34) rfl ?_
              refine w_ceq_t dX2_joined_34 (t := 41) rfl (by have := zt_1; have := zt_1; omega) ?_
              exact ih41 M v11_0 v11_1 v11_2 s11_0 o11_4 o11_5 hJ (zbot _) (by omega) (zbot _) (ztop _) (zbot _) (ztop _) (zbot _) (ztop _) (by omega)
            · skip
              refine w_ige_t dX2_joined_26 (t := 33) rfl (by omega) ?_
              refine w_ic dX2_joined_33 zi_0 ?_
              refine w_ceq_f dX2_joined_34 (t := 41) rfl (by have := zt_1; have := zt_0; omega) ?_
              refine w_lo dX2_joined_37 rfl rfl rfl rfl ?_
              refine w_lo dX2_joined_38 rfl rfl rfl rfl ?_
              refine w_add dX2_joined_39 (by omega) ?_
              intro x4 h5
              refine w_lo (ml' := [some (.int v11_0), some (.int v11_1), some (.int v11_2), some (.int x4), o11_4, o11_5]) dX2_joined_40 rfl rfl rfl rfl ?_
              exact ih41 M v11_0 v11_1 v11_2 x4 o11_4 o11_5 hJ (zbot _) (by omega) (zbot _) (ztop _) (zbot _) (ztop _) (zbot _) (ztop _) (by omega)
          · skip
            refine w_ige_t dX2_joined_17 (t := 24) rfl (by omega) ?_
            refine w_ic dX2_joined_24 zi_0 ?_
            refine w_lo dX2_joined_25 rfl rfl rfl rfl ?_
            rcases zcut v11_2.toInt (0 : Int) with h6 | h6
            · skip
              refine w_ige_f dX2_joined_26 (t := 33) rfl (by omega) ?_
              refine w_ic dX2_joined_29 zi_1 ?_
              refine w_gt dX2_joined_30 (t := 34) rfl ?_
              refine w_ceq_f dX2_joined_34 (t := 41) rfl (by have := zt_0; have := zt_1; omega) ?_
              refine w_lo dX2_joined_37 rfl rfl rfl rfl ?_
              refine w_lo dX2_joined_38 rfl rfl rfl rfl ?_
              refine w_add dX2_joined_39 (by omega) ?_
              intro x7 h8
              refine w_lo (ml' := [some (.int v11_0), some (.int v11_1), some (.int v11_2), some (.int x7), o11_4, o11_5]) dX2_joined_40 rfl rfl rfl rfl ?_
              exact ih41 M v11_0 v11_1 v11_2 x7 o11_4 o11_5 hJ (zbot _) (by omega) (zbot _) (ztop _) (zbot _) (ztop _) (zbot _) (ztop _) (by omega)
            · skip
              refine w_ige_t dX2_joined_26 (t := 33) rfl (by omega) ?_
              refine w_ic dX2_joined_33 zi_0 ?_
              refine w_ceq_t dX2_joined_34 (t := 41) rfl (by have := zt_0; have := zt_0; omega) ?_
              exact ih41 M v11_0 v11_1 v11_2 s11_0 o11_4 o11_5 hJ (zbot _) (by omega) (zbot _) (ztop _) (zbot _) (ztop _) (zbot _) (ztop _) (by omega)
        · skip
          refine w_ieq_t dX2_joined_13 (t := 41) rfl (by omega) ?_
          exact ih41 M v11_0 v11_1 v11_2 s11_0 o11_4 o11_5 hJ (zbot _) (by omega) (zbot _) (ztop _) (zbot _) (ztop _) (zbot _) (ztop _) (by omega)
      · intro M v41_0 v41_1 v41_2 v41_3 o41_4 o41_5 hJ v41_00 v41_01 v41_10 v41_11 v41_20 v41_21 v41_30 v41_31 hn
        refine w_lo dX2_joined_41 rfl rfl rfl rfl ?_
        rcases Int.decEq v41_0.toInt (-20 : Int) with h9 | h9
        rotate_left
        · skip
          refine w_ts dX2_joined_42 (t := 168) (j := -20) h9 (by decide) ?_
          refine w_lo dX2_joined_168 rfl rfl rfl rfl ?_
          refine w_lo dX2_joined_169 rfl rfl rfl rfl ?_
          rcases zcut v41_2.toInt v41_1.toInt with h10 | h10
          · skip
            refine w_cle_f dX2_joined_170 (t := 177) rfl (by omega) ?_
            refine w_lo dX2_joined_173 rfl rfl rfl rfl ?_
            refine w_gt dX2_joined_174 (t := 178) rfl ?_
            refine w_eni dX2_joined_178 rfl rfl ?_
            exact ⟨_, _, rfl, (zbot _), (ztop _), hJ, trivial⟩
          · skip
            refine w_cle_t dX2_joined_170 (t := 177) rfl (by omega) ?_
            refine w_lo dX2_joined_177 rfl rfl rfl rfl ?_
            refine w_eni dX2_joined_178 rfl rfl ?_
            exact ⟨_, _, rfl, (zbot _), (ztop _), hJ, trivial⟩
        rcases Int.decEq v41_0.toInt (-19 : Int) with h11 | h11
        rotate_left
        · skip
          refine w_ts dX2_joined_42 (t := 157) (j := -19) h11 (by decide) ?_
          refine w_lo dX2_joined_157 rfl rfl rfl rfl ?_
          refine w_lo dX2_joined_158 rfl rfl rfl rfl ?_
          rcases zcut v41_1.toInt v41_2.toInt with h12 | h12
          · skip
            refine w_cge_f dX2_joined_159 (t := 166) rfl (by omega) ?_
            refine w_lo dX2_joined_162 rfl rfl rfl rfl ?_
            refine w_gt dX2_joined_163 (t := 167) rfl ?_
            refine w_eni dX2_joined_167 rfl rfl ?_
            exact ⟨_, _, rfl, (zbot _), (ztop _), hJ, trivial⟩
          · skip
            refine w_cge_t dX2_joined_159 (t := 166) rfl (by omega) ?_
            refine w_lo dX2_joined_166 rfl rfl rfl rfl ?_
            refine w_eni dX2_joined_167 rfl rfl ?_
            exact ⟨_, _, rfl, (zbot _), (ztop _), hJ, trivial⟩
        rcases Int.decEq v41_0.toInt (-18 : Int) with h13 | h13
        rotate_left
        · skip
          refine w_ts dX2_joined_42 (t := 153) (j := -18) h13 (by decide) ?_
          refine w_lo dX2_joined_153 rfl rfl rfl rfl ?_
          refine w_lo dX2_joined_154 rfl rfl rfl rfl ?_
          refine w_puI dX2_joined_155 rfl rfl ?_
          intro x14
          refine w_eni dX2_joined_156 rfl rfl ?_
          exact ⟨_, _, rfl, (zbot _), (ztop _), hJ, trivial⟩
        rcases Int.decEq v41_0.toInt (-17 : Int) with h15 | h15
        rotate_left
        · skip
          refine w_ts dX2_joined_42 (t := 149) (j := -17) h15 (by decide) ?_
          refine w_lo dX2_joined_149 rfl rfl rfl rfl ?_
          refine w_lo dX2_joined_150 rfl rfl rfl rfl ?_
          refine w_puI dX2_joined_151 rfl rfl ?_
          intro x16
          refine w_eni dX2_joined_152 rfl rfl ?_
          exact ⟨_, _, rfl, (zbot _), (ztop _), hJ, trivial⟩
        rcases Int.decEq v41_0.toInt (-16 : Int) with h17 | h17
        rotate_left
        · skip
          refine w_ts dX2_joined_42 (t := 138) (j := -16) h17 (by decide) ?_
          refine w_lo dX2_joined_138 rfl rfl rfl rfl ?_
          refine w_lo dX2_joined_139 rfl rfl rfl rfl ?_
          rcases Int.decEq v41_1.toInt v41_2.toInt with h18 | h18
          · skip
            refine w_cne_t dX2_joined_140 (t := 147) rfl (by omega) ?_
            refine w_ic dX2_joined_147 zi_0 ?_
            refine w_en dX2_joined_148 rfl ?_
            exact ⟨_, _, rfl, (zbot _), (ztop _), hJ, trivial⟩
          · skip
            refine w_cne_f dX2_joined_140 (t := 147) rfl (by omega) ?_
            refine w_ic dX2_joined_143 zi_1 ?_
            refine w_gt dX2_joined_144 (t := 148) rfl ?_
            refine w_en dX2_joined_148 rfl ?_
            exact ⟨_, _, rfl, (zbot _), (ztop _), hJ, trivial⟩
        rcases Int.decEq v41_0.toInt (-15 : Int) with h19 | h19
        rotate_left
        · skip
          refine w_ts dX2_joined_42 (t := 127) (j := -15) h19 (by decide) ?_
          refine w_lo dX2_joined_127 rfl rfl rfl rfl ?_
          refine w_lo dX2_joined_128 rfl rfl rfl rfl ?_
          rcases zcut v41_2.toInt v41_1.toInt with h20 | h20
          · skip
            refine w_cle_f dX2_joined_129 (t := 136) rfl (by omega) ?_
            refine w_ic dX2_joined_132 zi_1 ?_
            refine w_gt dX2_joined_133 (t := 137) rfl ?_
            refine w_en dX2_joined_137 rfl ?_
            exact ⟨_, _, rfl, (zbot _), (ztop _), hJ, trivial⟩
          · skip
            refine w_cle_t dX2_joined_129 (t := 136) rfl (by omega) ?_
            refine w_ic dX2_joined_136 zi_0 ?_
            refine w_en dX2_joined_137 rfl ?_
            exact ⟨_, _, rfl, (zbot _), (ztop _), hJ, trivial⟩
        rcases Int.decEq v41_0.toInt (-14 : Int) with h21 | h21
        rotate_left
        · skip
          refine w_ts dX2_joined_42 (t := 116) (j := -14) h21 (by decide) ?_
          refine w_lo dX2_joined_116 rfl rfl rfl rfl ?_
          refine w_lo dX2_joined_117 rfl rfl rfl rfl ?_
          rcases zcut v41_1.toInt v41_2.toInt with h22 | h22
          · skip
            refine w_cge_f dX2_joined_118 (t := 125) rfl (by omega) ?_
            refine w_ic dX2_joined_121 zi_1 ?_
            refine w_gt dX2_joined_122 (t := 126) rfl ?_
            refine w_en dX2_joined_126 rfl ?_
            exact ⟨_, _, rfl, (zbot _), (ztop _), hJ, trivial⟩
          · skip
            refine w_cge_t dX2_joined_118 (t := 125) rfl (by omega) ?_
            refine w_ic dX2_joined_125 zi_0 ?_
            refine w_en dX2_joined_126 rfl ?_
            exact ⟨_, _, rfl, (zbot _), (ztop _), hJ, trivial⟩
        rcases Int.decEq v41_0.toInt (-13 : Int) with h23 | h23
        rotate_left
        · skip
          refine w_ts dX2_joined_42 (t := 179) (j := -13) h23 (by decide) ?_
          refine w_lo dX2_joined_179 rfl rfl rfl rfl ?_
          refine w_bi dX2_joined_180 (c := (-9)) (by decide) ?_
          refine w_cne_t dX2_joined_182 (t := 193) rfl (by have := zt_m9; omega) ?_
          refine w_lo dX2_joined_193 rfl rfl rfl rfl ?_
          refine w_bi dX2_joined_194 (c := (-12)) (by decide) ?_
          refine w_cne_t dX2_joined_196 (t := 207) rfl (by have := zt_m12; omega) ?_
          refine w_lo dX2_joined_207 rfl rfl rfl rfl ?_
          refine w_i2l dX2_joined_208 ?_
          intro y24 h25
          have := ztop v41_1; have := zbot v41_1
          refine w_lo dX2_joined_209 rfl rfl rfl rfl ?_
          refine w_i2l dX2_joined_210 ?_
          intro y26 h27
          have := ztop v41_2; have := zbot v41_2
          refine w_lsub dX2_joined_211 (by omega) ?_
          intro y28 h29
          skip
          refine w_lo (ml' := [some (.int v41_0), some (.int v41_1), some (.int v41_2), some (.int v41_3), some (.long y28), none]) dX2_joined_212 rfl rfl rfl rfl ?_
          refine w_lo dX2_joined_214 rfl rfl rfl rfl ?_
          refine w_me (st' := [.long (1000000 : Int64), .long y28]) dX2_joined_216 rfl rfl rfl rfl rfl ?_
          refine w_lcm dX2_joined_219 ?_
          intro x30 h31
          have := ztl_1000000
          rcases zcut (0 : Int) x30.toInt with h32 | h32
          · skip
            refine w_ile_f dX2_joined_220 (t := 228) rfl (by omega) ?_
            refine w_me (st' := [.int 1000000]) dX2_joined_223 rfl rfl rfl rfl rfl ?_
            refine w_gt dX2_joined_225 (t := 245) rfl ?_
            refine w_en dX2_joined_245 rfl ?_
            exact ⟨_, _, rfl, (zbot _), (ztop _), hJ, trivial⟩
          · skip
            refine w_ile_t dX2_joined_220 (t := 228) rfl (by omega) ?_
            refine w_lo dX2_joined_228 rfl rfl rfl rfl ?_
            refine w_me (st' := [.long (-1000000 : Int64), .long y28]) dX2_joined_230 rfl rfl rfl rfl rfl ?_
            refine w_lcm dX2_joined_233 ?_
            intro x33 h34
            have := ztl_m1000000
            rcases zcut x33.toInt (0 : Int) with h35 | h35
            · skip
              refine w_ige_f dX2_joined_234 (t := 242) rfl (by omega) ?_
              refine w_me (st' := [.int (-1000000)]) dX2_joined_237 rfl rfl rfl rfl rfl ?_
              refine w_gt dX2_joined_239 (t := 245) rfl ?_
              refine w_en dX2_joined_245 rfl ?_
              exact ⟨_, _, rfl, (zbot _), (ztop _), hJ, trivial⟩
            · skip
              refine w_ige_t dX2_joined_234 (t := 242) rfl (by omega) ?_
              refine w_lo dX2_joined_242 rfl rfl rfl rfl ?_
              refine w_l2i dX2_joined_244 (by omega) ?_
              intro x36 h37
              skip
              refine w_eni dX2_joined_245 rfl rfl ?_
              exact ⟨_, _, rfl, (zbot _), (ztop _), hJ, trivial⟩
        rcases Int.decEq v41_0.toInt (-12 : Int) with h38 | h38
        rotate_left
        · skip
          refine w_ts dX2_joined_42 (t := 179) (j := -12) h38 (by decide) ?_
          refine w_lo dX2_joined_179 rfl rfl rfl rfl ?_
          refine w_bi dX2_joined_180 (c := (-9)) (by decide) ?_
          refine w_cne_t dX2_joined_182 (t := 193) rfl (by have := zt_m9; omega) ?_
          refine w_lo dX2_joined_193 rfl rfl rfl rfl ?_
          refine w_bi dX2_joined_194 (c := (-12)) (by decide) ?_
          refine w_cne_f dX2_joined_196 (t := 207) rfl (by have := zt_m12; omega) ?_
          refine w_lo dX2_joined_199 rfl rfl rfl rfl ?_
          refine w_i2l dX2_joined_200 ?_
          intro y39 h40
          have := ztop v41_1; have := zbot v41_1
          refine w_lo dX2_joined_201 rfl rfl rfl rfl ?_
          refine w_i2l dX2_joined_202 ?_
          intro y41 h42
          have := ztop v41_2; have := zbot v41_2
          refine w_ladd dX2_joined_203 (by omega) ?_
          intro y43 h44
          skip
          refine w_gt dX2_joined_204 (t := 212) rfl ?_
          refine w_lo (ml' := [some (.int v41_0), some (.int v41_1), some (.int v41_2), some (.int v41_3), some (.long y43), none]) dX2_joined_212 rfl rfl rfl rfl ?_
          refine w_lo dX2_joined_214 rfl rfl rfl rfl ?_
          refine w_me (st' := [.long (1000000 : Int64), .long y43]) dX2_joined_216 rfl rfl rfl rfl rfl ?_
          refine w_lcm dX2_joined_219 ?_
          intro x45 h46
          have := ztl_1000000
          rcases zcut (0 : Int) x45.toInt with h47 | h47
          · skip
            refine w_ile_f dX2_joined_220 (t := 228) rfl (by omega) ?_
            refine w_me (st' := [.int 1000000]) dX2_joined_223 rfl rfl rfl rfl rfl ?_
            refine w_gt dX2_joined_225 (t := 245) rfl ?_
            refine w_en dX2_joined_245 rfl ?_
            exact ⟨_, _, rfl, (zbot _), (ztop _), hJ, trivial⟩
          · skip
            refine w_ile_t dX2_joined_220 (t := 228) rfl (by omega) ?_
            refine w_lo dX2_joined_228 rfl rfl rfl rfl ?_
            refine w_me (st' := [.long (-1000000 : Int64), .long y43]) dX2_joined_230 rfl rfl rfl rfl rfl ?_
            refine w_lcm dX2_joined_233 ?_
            intro x48 h49
            have := ztl_m1000000
            rcases zcut x48.toInt (0 : Int) with h50 | h50
            · skip
              refine w_ige_f dX2_joined_234 (t := 242) rfl (by omega) ?_
              refine w_me (st' := [.int (-1000000)]) dX2_joined_237 rfl rfl rfl rfl rfl ?_
              refine w_gt dX2_joined_239 (t := 245) rfl ?_
              refine w_en dX2_joined_245 rfl ?_
              exact ⟨_, _, rfl, (zbot _), (ztop _), hJ, trivial⟩
            · skip
              refine w_ige_t dX2_joined_234 (t := 242) rfl (by omega) ?_
              refine w_lo dX2_joined_242 rfl rfl rfl rfl ?_
              refine w_l2i dX2_joined_244 (by omega) ?_
              intro x51 h52
              skip
              refine w_eni dX2_joined_245 rfl rfl ?_
              exact ⟨_, _, rfl, (zbot _), (ztop _), hJ, trivial⟩
        rcases Int.decEq v41_0.toInt (-11 : Int) with h53 | h53
        rotate_left
        · skip
          refine w_ts dX2_joined_42 (t := 114) (j := -11) h53 (by decide) ?_
          refine w_lo dX2_joined_114 rfl rfl rfl rfl ?_
          refine w_eni dX2_joined_115 rfl rfl ?_
          exact ⟨_, _, rfl, (zbot _), (ztop _), hJ, trivial⟩
        rcases Int.decEq v41_0.toInt (-10 : Int) with h54 | h54
        rotate_left
        · skip
          refine w_ts dX2_joined_42 (t := 100) (j := -10) h54 (by decide) ?_
          refine w_lo dX2_joined_100 rfl rfl rfl rfl ?_
          rcases Int.decEq v41_2.toInt (0 : Int) with h55 | h55
          · skip
            refine w_ine_t dX2_joined_101 (t := 108) rfl (by omega) ?_
            refine w_lo dX2_joined_108 rfl rfl rfl rfl ?_
            refine w_lo dX2_joined_109 rfl rfl rfl rfl ?_
            refine w_puI dX2_joined_110 rfl rfl ?_
            intro x56
            refine w_lo dX2_joined_111 rfl rfl rfl rfl ?_
            refine w_divT dX2_joined_112 (by omega) ?_
            intro x57
            refine w_eni dX2_joined_113 rfl rfl ?_
            exact ⟨_, _, rfl, (zbot _), (ztop _), hJ, trivial⟩
          · skip
            refine w_ine_f dX2_joined_101 (t := 108) rfl (by omega) ?_
            refine w_ic dX2_joined_104 zi_0 ?_
            refine w_gt dX2_joined_105 (t := 113) rfl ?_
            refine w_en dX2_joined_113 rfl ?_
            exact ⟨_, _, rfl, (zbot _), (ztop _), hJ, trivial⟩
        refine w_td dX2_joined_42 (t := 179) (by omega) rfl ?_
        refine w_lo dX2_joined_179 rfl rfl rfl rfl ?_
        refine w_bi dX2_joined_180 (c := (-9)) (by decide) ?_
        rcases Int.decEq v41_0.toInt (-9 : Int) with h58 | h58
        · skip
          refine w_cne_t dX2_joined_182 (t := 193) rfl (by have := zt_m9; omega) ?_
          refine w_lo dX2_joined_193 rfl rfl rfl rfl ?_
          refine w_bi dX2_joined_194 (c := (-12)) (by decide) ?_
          rcases Int.decEq v41_0.toInt (-12 : Int) with h59 | h59
          · skip
            refine w_cne_t dX2_joined_196 (t := 207) rfl (by have := zt_m12; omega) ?_
            refine w_lo dX2_joined_207 rfl rfl rfl rfl ?_
            refine w_i2l dX2_joined_208 ?_
            intro y60 h61
            have := ztop v41_1; have := zbot v41_1
            refine w_lo dX2_joined_209 rfl rfl rfl rfl ?_
            refine w_i2l dX2_joined_210 ?_
            intro y62 h63
            have := ztop v41_2; have := zbot v41_2
            refine w_lsub dX2_joined_211 (by omega) ?_
            intro y64 h65
            skip
            refine w_lo (ml' := [some (.int v41_0), some (.int v41_1), some (.int v41_2), some (.int v41_3), some (.long y64), none]) dX2_joined_212 rfl rfl rfl rfl ?_
            refine w_lo dX2_joined_214 rfl rfl rfl rfl ?_
            refine w_me (st' := [.long (1000000 : Int64), .long y64]) dX2_joined_216 rfl rfl rfl rfl rfl ?_
            refine w_lcm dX2_joined_219 ?_
            intro x66 h67
            have := ztl_1000000
            rcases zcut (0 : Int) x66.toInt with h68 | h68
            · skip
              refine w_ile_f dX2_joined_220 (t := 228) rfl (by omega) ?_
              refine w_me (st' := [.int 1000000]) dX2_joined_223 rfl rfl rfl rfl rfl ?_
              refine w_gt dX2_joined_225 (t := 245) rfl ?_
              refine w_en dX2_joined_245 rfl ?_
              exact ⟨_, _, rfl, (zbot _), (ztop _), hJ, trivial⟩
            · skip
              refine w_ile_t dX2_joined_220 (t := 228) rfl (by omega) ?_
              refine w_lo dX2_joined_228 rfl rfl rfl rfl ?_
              refine w_me (st' := [.long (-1000000 : Int64), .long y64]) dX2_joined_230 rfl rfl rfl rfl rfl ?_
              refine w_lcm dX2_joined_233 ?_
              intro x69 h70
              have := ztl_m1000000
              rcases zcut x69.toInt (0 : Int) with h71 | h71
              · skip
                refine w_ige_f dX2_joined_234 (t := 242) rfl (by omega) ?_
                refine w_me (st' := [.int (-1000000)]) dX2_joined_237 rfl rfl rfl rfl rfl ?_
                refine w_gt dX2_joined_239 (t := 245) rfl ?_
                refine w_en dX2_joined_245 rfl ?_
                exact ⟨_, _, rfl, (zbot _), (ztop _), hJ, trivial⟩
              · skip
                refine w_ige_t dX2_joined_234 (t := 242) rfl (by omega) ?_
                refine w_lo dX2_joined_242 rfl rfl rfl rfl ?_
                refine w_l2i dX2_joined_244 (by omega) ?_
                intro x72 h73
                skip
                refine w_eni dX2_joined_245 rfl rfl ?_
                exact ⟨_, _, rfl, (zbot _), (ztop _), hJ, trivial⟩
          · skip
            refine w_cne_f dX2_joined_196 (t := 207) rfl (by have := zt_m12; omega) ?_
            refine w_lo dX2_joined_199 rfl rfl rfl rfl ?_
            refine w_i2l dX2_joined_200 ?_
            intro y74 h75
            have := ztop v41_1; have := zbot v41_1
            refine w_lo dX2_joined_201 rfl rfl rfl rfl ?_
            refine w_i2l dX2_joined_202 ?_
            intro y76 h77
            have := ztop v41_2; have := zbot v41_2
            refine w_ladd dX2_joined_203 (by omega) ?_
            intro y78 h79
            skip
            refine w_gt dX2_joined_204 (t := 212) rfl ?_
            refine w_lo (ml' := [some (.int v41_0), some (.int v41_1), some (.int v41_2), some (.int v41_3), some (.long y78), none]) dX2_joined_212 rfl rfl rfl rfl ?_
            refine w_lo dX2_joined_214 rfl rfl rfl rfl ?_
            refine w_me (st' := [.long (1000000 : Int64), .long y78]) dX2_joined_216 rfl rfl rfl rfl rfl ?_
            refine w_lcm dX2_joined_219 ?_
            intro x80 h81
            have := ztl_1000000
            rcases zcut (0 : Int) x80.toInt with h82 | h82
            · skip
              refine w_ile_f dX2_joined_220 (t := 228) rfl (by omega) ?_
              refine w_me (st' := [.int 1000000]) dX2_joined_223 rfl rfl rfl rfl rfl ?_
              refine w_gt dX2_joined_225 (t := 245) rfl ?_
              refine w_en dX2_joined_245 rfl ?_
              exact ⟨_, _, rfl, (zbot _), (ztop _), hJ, trivial⟩
            · skip
              refine w_ile_t dX2_joined_220 (t := 228) rfl (by omega) ?_
              refine w_lo dX2_joined_228 rfl rfl rfl rfl ?_
              refine w_me (st' := [.long (-1000000 : Int64), .long y78]) dX2_joined_230 rfl rfl rfl rfl rfl ?_
              refine w_lcm dX2_joined_233 ?_
              intro x83 h84
              have := ztl_m1000000
              rcases zcut x83.toInt (0 : Int) with h85 | h85
              · skip
                refine w_ige_f dX2_joined_234 (t := 242) rfl (by omega) ?_
                refine w_me (st' := [.int (-1000000)]) dX2_joined_237 rfl rfl rfl rfl rfl ?_
                refine w_gt dX2_joined_239 (t := 245) rfl ?_
                refine w_en dX2_joined_245 rfl ?_
                exact ⟨_, _, rfl, (zbot _), (ztop _), hJ, trivial⟩
              · skip
                refine w_ige_t dX2_joined_234 (t := 242) rfl (by omega) ?_
                refine w_lo dX2_joined_242 rfl rfl rfl rfl ?_
                refine w_l2i dX2_joined_244 (by omega) ?_
                intro x86 h87
                skip
                refine w_eni dX2_joined_245 rfl rfl ?_
                exact ⟨_, _, rfl, (zbot _), (ztop _), hJ, trivial⟩
        · skip
          refine w_cne_f dX2_joined_182 (t := 193) rfl (by have := zt_m9; omega) ?_
          refine w_lo dX2_joined_185 rfl rfl rfl rfl ?_
          refine w_i2l dX2_joined_186 ?_
          intro y88 h89
          have := ztop v41_1; have := zbot v41_1
          refine w_lo dX2_joined_187 rfl rfl rfl rfl ?_
          refine w_i2l dX2_joined_188 ?_
          intro y90 h91
          have := ztop v41_2; have := zbot v41_2
          refine w_puL dX2_joined_189 rfl rfl ?_
          intro y92
          refine w_gt dX2_joined_190 (t := 212) rfl ?_
          refine w_lo (ml' := [some (.int v41_0), some (.int v41_1), some (.int v41_2), some (.int v41_3), some (.long y92), none]) dX2_joined_212 rfl rfl rfl rfl ?_
          refine w_lo dX2_joined_214 rfl rfl rfl rfl ?_
          refine w_me (st' := [.long (1000000 : Int64), .long y92]) dX2_joined_216 rfl rfl rfl rfl rfl ?_
          refine w_lcm dX2_joined_219 ?_
          intro x93 h94
          have := ztl_1000000
          rcases zcut (0 : Int) x93.toInt with h95 | h95
          · skip
            refine w_ile_f dX2_joined_220 (t := 228) rfl (by omega) ?_
            refine w_me (st' := [.int 1000000]) dX2_joined_223 rfl rfl rfl rfl rfl ?_
            refine w_gt dX2_joined_225 (t := 245) rfl ?_
            refine w_en dX2_joined_245 rfl ?_
            exact ⟨_, _, rfl, (zbot _), (ztop _), hJ, trivial⟩
          · skip
            refine w_ile_t dX2_joined_220 (t := 228) rfl (by omega) ?_
            refine w_lo dX2_joined_228 rfl rfl rfl rfl ?_
            refine w_me (st' := [.long (-1000000 : Int64), .long y92]) dX2_joined_230 rfl rfl rfl rfl rfl ?_
            refine w_lcm dX2_joined_233 ?_
            intro x96 h97
            have := ztl_m1000000
            rcases zcut x96.toInt (0 : Int) with h98 | h98
            · skip
              refine w_ige_f dX2_joined_234 (t := 242) rfl (by omega) ?_
              refine w_me (st' := [.int (-1000000)]) dX2_joined_237 rfl rfl rfl rfl rfl ?_
              refine w_gt dX2_joined_239 (t := 245) rfl ?_
              refine w_en dX2_joined_245 rfl ?_
              exact ⟨_, _, rfl, (zbot _), (ztop _), hJ, trivial⟩
            · skip
              refine w_ige_t dX2_joined_234 (t := 242) rfl (by omega) ?_
              refine w_lo dX2_joined_242 rfl rfl rfl rfl ?_
              refine w_l2i dX2_joined_244 (by omega) ?_
              intro x99 h100
              skip
              refine w_eni dX2_joined_245 rfl rfl ?_
              exact ⟨_, _, rfl, (zbot _), (ztop _), hJ, trivial⟩
  obtain ⟨ih11, ih41⟩ := main 7
  show ZW _ _ _ _ _ _ _ (0, [some (.int a0), some (.int a1), some (.int a2), none, none, none], [], M0)
  refine w_lo dX2_joined_0 rfl rfl rfl rfl ?_
  rcases Int.decEq a2.toInt (0 : Int) with h101 | h101
  · skip
    refine w_ine_t dX2_joined_1 (t := 8) rfl (by omega) ?_
    refine w_lo dX2_joined_8 rfl rfl rfl rfl ?_
    refine w_lo dX2_joined_9 rfl rfl rfl rfl ?_
    refine w_remT dX2_joined_10 (by omega) ?_
    intro x102
    exact ih11 M0 a0 a1 a2 none none none x102 hJ0 (zbot _) (by omega) (zbot _) (ztop _) (zbot _) (ztop _) (zbot _) (ztop _) (by omega)
  · skip
    refine w_ine_f dX2_joined_1 (t := 8) rfl (by omega) ?_
    refine w_ic dX2_joined_4 zi_0 ?_
    refine w_gt dX2_joined_5 (t := 11) rfl ?_
    exact ih11 M0 a0 a1 a2 none none none 0 hJ0 (zbot _) (by omega) (zbot _) (ztop _) (zbot _) (ztop _) (zbot _) (ztop _) (by have := zt_0; omega)
set_option maxRecDepth 100000 in
theorem k_519 {X : List Int32} {d N : Nat} {M0 : zM} (t : Nat) (ht : zLw t) (a0 : Int32) (ha00 : (0 : Int) ≤ a0.toInt) (ha01 : a0.toInt ≤ 1600) (a1 : Int32) (ha10 : (0 : Int) ≤ a1.toInt) (ha11 : a1.toInt ≤ 1600) (hN : N ≤ 600) (hB0 : zB N M0) : ZV X (d + 2) 519 [.ref t, .int a0, .int a1] M0 (zRI N [(t + 6, t + 7, 1000)] M0 (-2147483648) (2147483647) (fun _ _ => True)) := by
  have hbt := zLw_b ht
  have hJ0 : zJ N [(t + 6, t + 7, 1000)] M0 M0 := zJ_refl hB0
  refine ZV.of (ini := false) rfl (Nat.le_of_ble_eq_true rfl) (by decide +kernel) ?_
  have main : ∀ n : Nat,
      (∀ (M : zM) (u5_1 : Int32) (v5_2 : Int32) (v5_3 : Int32) (v5_4 : Int32) (o5_5 : Option Value), zJ N [(t + 6, t + 7, 1000)] M0 M → ((0 : Int) ≤ v5_2.toInt) → (v5_2.toInt ≤ 1600) → ((0 : Int) ≤ v5_3.toInt) → (v5_3.toInt ≤ 64) → ((0 : Int) ≤ v5_4.toInt) → (v5_4.toInt ≤ 1600) → 3 * (1600 - v5_4.toInt) + 1 < (n : Int) → ZW X (d + 1) 2 false (some .int) cX2_run (zRI N [(t + 6, t + 7, 1000)] M0 (-2147483648) (2147483647) (fun _ _ => True)) (5, [some (.ref t), some (.int u5_1), some (.int v5_2), some (.int v5_3), some (.int v5_4), o5_5], [], M)) := by
    intro n
    induction n with
    | zero =>
      exact (fun M u5_1 v5_2 v5_3 v5_4 o5_5 hJ v5_20 v5_21 v5_30 v5_31 v5_40 v5_41 hn => absurd hn (by omega))
    | succ n ih =>
      have ih5 := ih
      · intro M u5_1 v5_2 v5_3 v5_4 o5_5 hJ v5_20 v5_21 v5_30 v5_31 v5_40 v5_41 hn
        refine w_lo dX2_run_5 rfl rfl rfl rfl ?_
        refine w_lo dX2_run_7 rfl rfl rfl rfl ?_
        rcases zcut v5_4.toInt v5_2.toInt with h1 | h1
        · skip
          refine w_cge_f dX2_run_8 (t := 152) rfl (by omega) ?_
          refine w_lo dX2_run_11 rfl rfl rfl rfl ?_
          refine w_si dX2_run_13 (c := 1600) (by decide) ?_
          refine w_cge_f dX2_run_16 (t := 152) rfl (by have := zt_1600; omega) ?_
          refine w_lo dX2_run_19 rfl rfl rfl rfl ?_
          refine w_gf dX2_run_20 rfl hJ.1.1 (zs_2_0 ht) (zr_2_0_2 ht hJ.1) ?_
          refine w_lo dX2_run_23 rfl rfl rfl rfl ?_
          refine w_iai dX2_run_25 hJ.1 (zs_2_1 ht) (by omega) (by omega) (zu_2_1 ht) ?_
          intro x5 f2 h3 h4
          refine w_lo (ml' := [some (.ref t), some (.int u5_1), some (.int v5_2), some (.int v5_3), some (.int v5_4), some (.int x5)]) dX2_run_26 rfl rfl rfl rfl ?_
          refine w_lo dX2_run_28 rfl rfl rfl rfl ?_
          refine w_bi dX2_run_30 (c := (-8)) (by decide) ?_
          rcases zcut (-8 : Int) x5.toInt with h6 | h6
          · skip
            refine w_cle_f dX2_run_32 (t := 74) rfl (by have := zt_m8; omega) ?_
            refine w_lo dX2_run_35 rfl rfl rfl rfl ?_
            refine w_bi dX2_run_36 (c := 64) (by decide) ?_
            rcases zcut v5_3.toInt (64 : Int) with h7 | h7
            · skip
              refine w_clt_t dX2_run_38 (t := 43) rfl (by have := zt_64; omega) ?_
              refine w_lo dX2_run_43 rfl rfl rfl rfl ?_
              refine w_gf dX2_run_44 rfl hJ.1.1 (zs_2_0 ht) (zr_2_0_7 ht hJ.1) ?_
              refine w_lo dX2_run_47 rfl rfl rfl rfl ?_
              refine w_lo dX2_run_48 rfl rfl rfl rfl ?_
              rcases zcut x5.toInt (0 : Int) with h8 | h8
              · skip
                refine w_ilt_t dX2_run_50 (t := 58) rfl (by omega) ?_
                refine w_lo dX2_run_58 rfl rfl rfl rfl ?_
                refine w_gf dX2_run_59 rfl hJ.1.1 (zs_2_0 ht) (zr_2_0_8 ht hJ.1) ?_
                refine w_ic dX2_run_62 zi_m1 ?_
                refine w_lo dX2_run_63 rfl rfl rfl rfl ?_
                refine w_sub dX2_run_65 (by have := zt_m1; omega) ?_
                intro x9 h10
                have := zt_m1
                refine w_iai dX2_run_66 hJ.1 (zs_2_7 ht) (by omega) (by omega) (zu_2_7 ht) ?_
                intro x14 f11 h12 h13
                refine w_isi dX2_run_67 hJ (zs_2_6 ht) (by omega) (by omega) (zu_2_6 ht) (zbot _) (ztop _) (zIR_a (by omega) (by omega)) ?_
                intro M15 hJ16 f17 hn18
                refine w_inc (kk := 3) dX2_run_68 rfl (m := 1) (by decide) (by omega) ?_
                intro x19 h20
                refine ⟨_, rfl, ?_⟩
                show ZW _ _ _ _ _ _ _ (71, [some (.ref t), some (.int u5_1), some (.int v5_2), some (.int x19), some (.int v5_4), some (.int x5)], [], M15)
                refine w_gt dX2_run_71 (t := 146) rfl ?_
                refine w_inc (kk := 4) dX2_run_146 rfl (m := 1) (by decide) (by omega) ?_
                intro x21 h22
                refine ⟨_, rfl, ?_⟩
                show ZW _ _ _ _ _ _ _ (149, [some (.ref t), some (.int u5_1), some (.int v5_2), some (.int x19), some (.int x21), some (.int x5)], [], M15)
                refine w_gt dX2_run_149 (t := 5) rfl ?_
                exact ih5 M15 u5_1 v5_2 x19 x21 (some (.int x5)) hJ16 (by omega) (by omega) (by omega) (by omega) (by omega) (by omega) (by omega)
              · skip
                refine w_ilt_f dX2_run_50 (t := 58) rfl (by omega) ?_
                refine w_lo dX2_run_53 rfl rfl rfl rfl ?_
                refine w_gt dX2_run_55 (t := 67) rfl ?_
                refine w_isi dX2_run_67 hJ (zs_2_6 ht) (by omega) (by omega) (zu_2_6 ht) (zbot _) (ztop _) (zIR_a (by omega) (by omega)) ?_
                intro M23 hJ24 f25 hn26
                refine w_inc (kk := 3) dX2_run_68 rfl (m := 1) (by decide) (by omega) ?_
                intro x27 h28
                refine ⟨_, rfl, ?_⟩
                show ZW _ _ _ _ _ _ _ (71, [some (.ref t), some (.int u5_1), some (.int v5_2), some (.int x27), some (.int v5_4), some (.int x5)], [], M23)
                refine w_gt dX2_run_71 (t := 146) rfl ?_
                refine w_inc (kk := 4) dX2_run_146 rfl (m := 1) (by decide) (by omega) ?_
                intro x29 h30
                refine ⟨_, rfl, ?_⟩
                show ZW _ _ _ _ _ _ _ (149, [some (.ref t), some (.int u5_1), some (.int v5_2), some (.int x27), some (.int x29), some (.int x5)], [], M23)
                refine w_gt dX2_run_149 (t := 5) rfl ?_
                exact ih5 M23 u5_1 v5_2 x27 x29 (some (.int x5)) hJ24 (by omega) (by omega) (by omega) (by omega) (by omega) (by omega) (by omega)
            · skip
              refine w_clt_f dX2_run_38 (t := 43) rfl (by have := zt_64; omega) ?_
              refine w_ic dX2_run_41 zi_0 ?_
              refine w_en dX2_run_42 rfl ?_
              exact ⟨_, _, rfl, (zbot _), (ztop _), hJ, trivial⟩
          · skip
            refine w_cle_t dX2_run_32 (t := 74) rfl (by have := zt_m8; omega) ?_
            refine w_lo dX2_run_74 rfl rfl rfl rfl ?_
            refine w_bi dX2_run_76 (c := (-8)) (by decide) ?_
            rcases Int.decEq x5.toInt (-8 : Int) with h31 | h31
            · skip
              refine w_cne_t dX2_run_78 (t := 109) rfl (by have := zt_m8; omega) ?_
              refine w_lo dX2_run_109 rfl rfl rfl rfl ?_
              refine w_ic dX2_run_110 zi_2 ?_
              rcases zcut v5_3.toInt (2 : Int) with h32 | h32
              · skip
                refine w_cge_f dX2_run_111 (t := 116) rfl (by have := zt_2; omega) ?_
                refine w_ic dX2_run_114 zi_0 ?_
                refine w_en dX2_run_115 rfl ?_
                exact ⟨_, _, rfl, (zbot _), (ztop _), hJ, trivial⟩
              · skip
                refine w_cge_t dX2_run_111 (t := 116) rfl (by have := zt_2; omega) ?_
                refine w_inc (kk := 3) dX2_run_116 rfl (m := -1) (by decide) (by omega) ?_
                intro x33 h34
                refine ⟨_, rfl, ?_⟩
                show ZW _ _ _ _ _ _ _ (119, [some (.ref t), some (.int u5_1), some (.int v5_2), some (.int x33), some (.int v5_4), some (.int x5)], [], M)
                refine w_lo dX2_run_119 rfl rfl rfl rfl ?_
                refine w_gf dX2_run_120 rfl hJ.1.1 (zs_2_0 ht) (zr_2_0_7 ht hJ.1) ?_
                refine w_lo dX2_run_123 rfl rfl rfl rfl ?_
                refine w_ic dX2_run_124 zi_1 ?_
                refine w_sub dX2_run_125 (by have := zt_1; omega) ?_
                intro x35 h36
                have := zt_1
                refine w_lo dX2_run_126 rfl rfl rfl rfl ?_
                refine w_lo dX2_run_128 rfl rfl rfl rfl ?_
                refine w_gf dX2_run_129 rfl hJ.1.1 (zs_2_0 ht) (zr_2_0_7 ht hJ.1) ?_
                refine w_lo dX2_run_132 rfl rfl rfl rfl ?_
                refine w_ic dX2_run_133 zi_1 ?_
                refine w_sub dX2_run_134 (by have := zt_1; omega) ?_
                intro x37 h38
                have := zt_1
                refine w_iai dX2_run_135 hJ.1 (zs_2_6 ht) (by omega) (by omega) (zu_2_6 ht) ?_
                intro x42 f39 h40 h41
                refine w_lo dX2_run_136 rfl rfl rfl rfl ?_
                refine w_gf dX2_run_137 rfl hJ.1.1 (zs_2_0 ht) (zr_2_0_7 ht hJ.1) ?_
                refine w_lo dX2_run_140 rfl rfl rfl rfl ?_
                refine w_iai dX2_run_141 hJ.1 (zs_2_6 ht) (by omega) (by omega) (zu_2_6 ht) ?_
                intro x46 f43 h44 h45
                refine w_ss dX2_run_142 rfl rfl (As := [.int x5, .int x42, .int x46]) rfl rfl (Nat.le_of_ble_eq_true rfl) ?_
                refine ZV.imp (k_520 x5 (zbot _) (by omega) x42 x46 hN hJ.1) ?_
                rintro _ ⟨x50, M47, rfl, h51, h52, hJ48, hq49⟩
                have hJ53 := zJ_trans hJ hJ48 zSub_nil
                show ZW _ _ _ _ _ _ _ (145, [some (.ref t), some (.int u5_1), some (.int v5_2), some (.int x33), some (.int v5_4), some (.int x5)], [.int x50, .int x35, .ref (t + 6)], M47)
                refine w_isi dX2_run_145 hJ53 (zs_2_6 ht) (by omega) (by omega) (zu_2_6 ht) (zbot _) (ztop _) (zIR_a (by omega) (by omega)) ?_
                intro M54 hJ55 f56 hn57
                refine w_inc (kk := 4) dX2_run_146 rfl (m := 1) (by decide) (by omega) ?_
                intro x58 h59
                refine ⟨_, rfl, ?_⟩
                show ZW _ _ _ _ _ _ _ (149, [some (.ref t), some (.int u5_1), some (.int v5_2), some (.int x33), some (.int x58), some (.int x5)], [], M54)
                refine w_gt dX2_run_149 (t := 5) rfl ?_
                exact ih5 M54 u5_1 v5_2 x33 x58 (some (.int x5)) hJ55 (by omega) (by omega) (by omega) (by omega) (by omega) (by omega) (by omega)
            · skip
              refine w_cne_f dX2_run_78 (t := 109) rfl (by have := zt_m8; omega) ?_
              refine w_lo dX2_run_81 rfl rfl rfl rfl ?_
              refine w_ic dX2_run_82 zi_1 ?_
              rcases zcut v5_3.toInt (1 : Int) with h60 | h60
              · skip
                refine w_cge_f dX2_run_83 (t := 88) rfl (by have := zt_1; omega) ?_
                refine w_ic dX2_run_86 zi_0 ?_
                refine w_en dX2_run_87 rfl ?_
                exact ⟨_, _, rfl, (zbot _), (ztop _), hJ, trivial⟩
              · skip
                refine w_cge_t dX2_run_83 (t := 88) rfl (by have := zt_1; omega) ?_
                refine w_lo dX2_run_88 rfl rfl rfl rfl ?_
                refine w_gf dX2_run_89 rfl hJ.1.1 (zs_2_0 ht) (zr_2_0_7 ht hJ.1) ?_
                refine w_lo dX2_run_92 rfl rfl rfl rfl ?_
                refine w_ic dX2_run_93 zi_1 ?_
                refine w_sub dX2_run_94 (by have := zt_1; omega) ?_
                intro x61 h62
                have := zt_1
                refine w_ic dX2_run_95 zi_1 ?_
                refine w_lo dX2_run_96 rfl rfl rfl rfl ?_
                refine w_gf dX2_run_97 rfl hJ.1.1 (zs_2_0 ht) (zr_2_0_7 ht hJ.1) ?_
                refine w_lo dX2_run_100 rfl rfl rfl rfl ?_
                refine w_ic dX2_run_101 zi_1 ?_
                refine w_sub dX2_run_102 (by have := zt_1; omega) ?_
                intro x63 h64
                have := zt_1
                refine w_iai dX2_run_103 hJ.1 (zs_2_6 ht) (by omega) (by omega) (zu_2_6 ht) ?_
                intro x68 f65 h66 h67
                refine w_puI dX2_run_104 rfl rfl ?_
                intro x69
                refine w_isi dX2_run_105 hJ (zs_2_6 ht) (by omega) (by omega) (zu_2_6 ht) (zbot _) (ztop _) (zIR_a (by omega) (by omega)) ?_
                intro M70 hJ71 f72 hn73
                refine w_gt dX2_run_106 (t := 146) rfl ?_
                refine w_inc (kk := 4) dX2_run_146 rfl (m := 1) (by decide) (by omega) ?_
                intro x74 h75
                refine ⟨_, rfl, ?_⟩
                show ZW _ _ _ _ _ _ _ (149, [some (.ref t), some (.int u5_1), some (.int v5_2), some (.int v5_3), some (.int x74), some (.int x5)], [], M70)
                refine w_gt dX2_run_149 (t := 5) rfl ?_
                exact ih5 M70 u5_1 v5_2 v5_3 x74 (some (.int x5)) hJ71 (by omega) (by omega) (by omega) (by omega) (by omega) (by omega) (by omega)
        · skip
          refine w_cge_t dX2_run_8 (t := 152) rfl (by omega) ?_
          refine w_lo dX2_run_152 rfl rfl rfl rfl ?_
          refine w_ic dX2_run_153 zi_1 ?_
          rcases zcut v5_3.toInt (1 : Int) with h76 | h76
          · skip
            refine w_cge_f dX2_run_154 (t := 161) rfl (by have := zt_1; omega) ?_
            refine w_ic dX2_run_157 zi_0 ?_
            refine w_gt dX2_run_158 (t := 169) rfl ?_
            refine w_en dX2_run_169 rfl ?_
            exact ⟨_, _, rfl, (zbot _), (ztop _), hJ, trivial⟩
          · skip
            refine w_cge_t dX2_run_154 (t := 161) rfl (by have := zt_1; omega) ?_
            refine w_lo dX2_run_161 rfl rfl rfl rfl ?_
            refine w_gf dX2_run_162 rfl hJ.1.1 (zs_2_0 ht) (zr_2_0_7 ht hJ.1) ?_
            refine w_lo dX2_run_165 rfl rfl rfl rfl ?_
            refine w_ic dX2_run_166 zi_1 ?_
            refine w_sub dX2_run_167 (by have := zt_1; omega) ?_
            intro x77 h78
            have := zt_1
            refine w_iai dX2_run_168 hJ.1 (zs_2_6 ht) (by omega) (by omega) (zu_2_6 ht) ?_
            intro x82 f79 h80 h81
            refine w_eni dX2_run_169 rfl rfl ?_
            exact ⟨_, _, rfl, (zbot _), (ztop _), hJ, trivial⟩
  have ih5 := main 4812
  show ZW _ _ _ _ _ _ _ (0, [some (.ref t), some (.int a0), some (.int a1), none, none, none], [], M0)
  refine w_ic dX2_run_0 zi_0 ?_
  refine w_lo (ml' := [some (.ref t), some (.int a0), some (.int a1), some (.int 0), none, none]) dX2_run_1 rfl rfl rfl rfl ?_
  refine w_lo dX2_run_2 rfl rfl rfl rfl ?_
  refine w_lo (ml' := [some (.ref t), some (.int a0), some (.int a1), some (.int 0), some (.int a0), none]) dX2_run_3 rfl rfl rfl rfl ?_
  exact ih5 M0 a0 a1 0 a0 none hJ0 (by omega) (by omega) (by have := zt_0; omega) (by have := zt_0; omega) (by omega) (by omega) (by have := zt_0; omega)
set_option maxRecDepth 100000 in
theorem k_518 {X : List Int32} {d N : Nat} {M0 : zM} (t : Nat) (ht : zLw t) (a0 : Int32) (ha00 : (0 : Int) ≤ a0.toInt) (ha01 : a0.toInt ≤ 1) (a1 : Int32) (a2 : Int32) (ha20 : (1 : Int) ≤ a2.toInt) (ha21 : a2.toInt ≤ 9999) (hN : N ≤ 600) (hB0 : zB N M0) : ZV X (d + 3) 518 [.ref t, .int a0, .int a1, .int a2] M0 (zRI N [(t + 6, t + 7, 1000)] M0 (0) (9999) (fun _ _ => True)) := by
  have hbt := zLw_b ht
  have hJ0 : zJ N [(t + 6, t + 7, 1000)] M0 M0 := zJ_refl hB0
  refine ZV.of (ini := false) rfl (Nat.le_of_ble_eq_true rfl) (by decide +kernel) ?_
  have main : ∀ n : Nat,
      (∀ (M : zM) (v6_1 : Int32) (u6_2 : Int32) (v6_3 : Int32) (v6_4 : Int32) (v6_5 : Int32), zJ N [(t + 6, t + 7, 1000)] M0 M → ((0 : Int) ≤ v6_1.toInt) → (v6_1.toInt ≤ 1) → ((1 : Int) ≤ v6_3.toInt) → (v6_3.toInt ≤ 9999) → ((-2147483648 : Int) ≤ v6_4.toInt) → (v6_4.toInt ≤ 2147483647) → ((0 : Int) ≤ v6_5.toInt) → (v6_5.toInt ≤ 8) → 3 * (8 - v6_5.toInt) + 1 < (n : Int) → ZW X (d + 2) 2 false (some .int) cX2_first (zRI N [(t + 6, t + 7, 1000)] M0 (0) (9999) (fun _ _ => True)) (6, [some (.ref t), some (.int v6_1), some (.int u6_2), some (.int v6_3), some (.int v6_4), some (.int v6_5)], [], M)) := by
    intro n
    induction n with
    | zero =>
      exact (fun M v6_1 u6_2 v6_3 v6_4 v6_5 hJ v6_10 v6_11 v6_30 v6_31 v6_40 v6_41 v6_50 v6_51 hn => absurd hn (by omega))
    | succ n ih =>
      have ih6 := ih
      · intro M v6_1 u6_2 v6_3 v6_4 v6_5 hJ v6_10 v6_11 v6_30 v6_31 v6_40 v6_41 v6_50 v6_51 hn
        refine w_lo dX2_first_6 rfl rfl rfl rfl ?_
        refine w_lo dX2_first_8 rfl rfl rfl rfl ?_
        refine w_gfi dX2_first_9 rfl hJ.1 (zs_2_0 ht) (Nat.le_of_ble_eq_true rfl) (zo_2_0_0 ht) ?_
        intro x1 f2 h3 h4
        rcases zcut v6_5.toInt x1.toInt with h5 | h5
        · skip
          refine w_cge_f dX2_first_12 (t := 76) rfl (by omega) ?_
          refine w_lo dX2_first_15 rfl rfl rfl rfl ?_
          refine w_gf dX2_first_16 rfl hJ.1.1 (zs_2_0 ht) (zr_2_0_3 ht hJ.1) ?_
          refine w_lo dX2_first_19 rfl rfl rfl rfl ?_
          refine w_bai dX2_first_21 hJ.1 (zs_2_2 ht) (by omega) (by omega) (zu_2_2 ht) ?_
          intro x9 f6 h7 h8
          refine w_lo dX2_first_22 rfl rfl rfl rfl ?_
          rcases Int.decEq x9.toInt v6_1.toInt with h10 | h10
          · skip
            refine w_cne_t dX2_first_23 (t := 70) rfl (by omega) ?_
            refine w_inc (kk := 5) dX2_first_70 rfl (m := 1) (by decide) (by omega) ?_
            intro x11 h12
            refine ⟨_, rfl, ?_⟩
            show ZW _ _ _ _ _ _ _ (73, [some (.ref t), some (.int v6_1), some (.int u6_2), some (.int v6_3), some (.int v6_4), some (.int x11)], [], M)
            refine w_gt dX2_first_73 (t := 6) rfl ?_
            exact ih6 M v6_1 u6_2 v6_3 v6_4 x11 hJ (by omega) (by omega) (by omega) (by omega) (zbot _) (ztop _) (by omega) (by omega) (by omega)
          · skip
            refine w_cne_f dX2_first_23 (t := 70) rfl (by omega) ?_
            refine w_lo dX2_first_26 rfl rfl rfl rfl ?_
            refine w_lo dX2_first_27 rfl rfl rfl rfl ?_
            refine w_gf dX2_first_28 rfl hJ.1.1 (zs_2_0 ht) (zr_2_0_5 ht hJ.1) ?_
            refine w_lo dX2_first_31 rfl rfl rfl rfl ?_
            refine w_iai dX2_first_33 hJ.1 (zs_2_4 ht) (by omega) (by omega) (zu_2_4 ht) ?_
            intro x16 f13 h14 h15
            refine w_lo dX2_first_34 rfl rfl rfl rfl ?_
            refine w_gf dX2_first_35 rfl hJ.1.1 (zs_2_0 ht) (zr_2_0_6 ht hJ.1) ?_
            refine w_lo dX2_first_38 rfl rfl rfl rfl ?_
            refine w_iai dX2_first_40 hJ.1 (zs_2_5 ht) (by omega) (by omega) (zu_2_5 ht) ?_
            intro x20 f17 h18 h19
            refine w_iv dX2_first_41 rfl rfl (As := [.int x16, .int x20]) rfl rfl hJ.1.1 (zs_2_0 ht) (Nat.le_of_ble_eq_true rfl) ?_
            refine ZV.imp (k_519 t ht x16 (by omega) (by omega) x20 (by omega) (by omega) hN hJ.1) ?_
            rintro _ ⟨x24, M21, rfl, h25, h26, hJ22, hq23⟩
            have hJ27 := zJ_trans hJ hJ22 (zSub_cons (fun _ _ h h' hk => zIR_a (by omega) (by omega)) zSub_nil)
            show ZW _ _ _ _ _ _ _ (44, [some (.ref t), some (.int v6_1), some (.int u6_2), some (.int v6_3), some (.int v6_4), some (.int v6_5)], [.int x24], M21)
            rcases Int.decEq x24.toInt (0 : Int) with h28 | h28
            · skip
              refine w_ieq_f dX2_first_44 (t := 70) rfl (by omega) ?_
              refine w_lo dX2_first_47 rfl rfl rfl rfl ?_
              refine w_lo dX2_first_48 rfl rfl rfl rfl ?_
              refine w_gf dX2_first_49 rfl hJ27.1.1 (zs_2_0 ht) (zr_2_0_4 ht hJ27.1) ?_
              refine w_lo dX2_first_52 rfl rfl rfl rfl ?_
              refine w_iai dX2_first_54 hJ27.1 (zs_2_3 ht) (by omega) (by omega) (zu_2_3 ht) ?_
              intro x32 f29 h30 h31
              refine w_lo dX2_first_55 rfl rfl rfl rfl ?_
              refine w_gf dX2_first_56 rfl hJ27.1.1 (zs_2_0 ht) (zr_2_0_5 ht hJ27.1) ?_
              refine w_lo dX2_first_59 rfl rfl rfl rfl ?_
              have f36 := (hJ22.2 (t + 4) (v6_5 : Int32).toInt.toNat (zNI (by omega) zNI_nil)).trans (f13)
              refine w_ia dX2_first_61 hJ27.1.1 (zs_2_4 ht) (znat (by omega)) f36 ?_
              refine w_iv dX2_first_62 rfl rfl (As := [.int x32, .int x16]) rfl rfl hJ27.1.1 (zs_2_0 ht) (Nat.le_of_ble_eq_true rfl) ?_
              refine ZV.imp (k_519 t ht x32 (by omega) (by omega) x16 (by omega) (by omega) hN hJ27.1) ?_
              rintro _ ⟨x40, M37, rfl, h41, h42, hJ38, hq39⟩
              have hJ43 := zJ_trans hJ27 hJ38 (zSub_cons (fun _ _ h h' hk => zIR_a (by omega) (by omega)) zSub_nil)
              show ZW _ _ _ _ _ _ _ (65, [some (.ref t), some (.int v6_1), some (.int u6_2), some (.int v6_3), some (.int v6_4), some (.int v6_5)], [.int x40], M37)
              refine w_lo (ml' := [some (.ref t), some (.int v6_1), some (.int u6_2), some (.int v6_3), some (.int x40), some (.int v6_5)]) dX2_first_65 rfl rfl rfl rfl ?_
              refine w_gt dX2_first_67 (t := 76) rfl ?_
              refine w_ic dX2_first_76 zi_0 ?_
              refine w_lo dX2_first_77 rfl rfl rfl rfl ?_
              refine w_lo dX2_first_78 rfl rfl rfl rfl ?_
              refine w_mnI dX2_first_80 rfl (Nat.le_of_ble_eq_true rfl) ?_
              intro x44 h45 h46 h47
              skip
              show ZW _ _ _ _ _ _ _ (83, [some (.ref t), some (.int v6_1), some (.int u6_2), some (.int v6_3), some (.int x40), some (.int v6_5)], [.int x44, .int 0], M37)
              refine w_mxI dX2_first_83 rfl (Nat.le_of_ble_eq_true rfl) ?_
              intro x48 h49 h50 h51
              have := zt_0
              show ZW _ _ _ _ _ _ _ (86, [some (.ref t), some (.int v6_1), some (.int u6_2), some (.int v6_3), some (.int x40), some (.int v6_5)], [.int x48], M37)
              refine w_eni dX2_first_86 rfl rfl ?_
              exact ⟨_, _, rfl, (by omega), (by omega), hJ43, trivial⟩
            · skip
              refine w_ieq_t dX2_first_44 (t := 70) rfl (by omega) ?_
              refine w_inc (kk := 5) dX2_first_70 rfl (m := 1) (by decide) (by omega) ?_
              intro x52 h53
              refine ⟨_, rfl, ?_⟩
              show ZW _ _ _ _ _ _ _ (73, [some (.ref t), some (.int v6_1), some (.int u6_2), some (.int v6_3), some (.int v6_4), some (.int x52)], [], M21)
              refine w_gt dX2_first_73 (t := 6) rfl ?_
              exact ih6 M21 v6_1 u6_2 v6_3 v6_4 x52 hJ27 (by omega) (by omega) (by omega) (by omega) (zbot _) (ztop _) (by omega) (by omega) (by omega)
        · skip
          refine w_cge_t dX2_first_12 (t := 76) rfl (by omega) ?_
          refine w_ic dX2_first_76 zi_0 ?_
          refine w_lo dX2_first_77 rfl rfl rfl rfl ?_
          refine w_lo dX2_first_78 rfl rfl rfl rfl ?_
          refine w_mnI dX2_first_80 rfl (Nat.le_of_ble_eq_true rfl) ?_
          intro x54 h55 h56 h57
          skip
          show ZW _ _ _ _ _ _ _ (83, [some (.ref t), some (.int v6_1), some (.int u6_2), some (.int v6_3), some (.int v6_4), some (.int v6_5)], [.int x54, .int 0], M)
          refine w_mxI dX2_first_83 rfl (Nat.le_of_ble_eq_true rfl) ?_
          intro x58 h59 h60 h61
          have := zt_0
          show ZW _ _ _ _ _ _ _ (86, [some (.ref t), some (.int v6_1), some (.int u6_2), some (.int v6_3), some (.int v6_4), some (.int v6_5)], [.int x58], M)
          refine w_eni dX2_first_86 rfl rfl ?_
          exact ⟨_, _, rfl, (by omega), (by omega), hJ, trivial⟩
  have ih6 := main 36
  show ZW _ _ _ _ _ _ _ (0, [some (.ref t), some (.int a0), some (.int a1), some (.int a2), none, none], [], M0)
  refine w_lo dX2_first_0 rfl rfl rfl rfl ?_
  refine w_lo (ml' := [some (.ref t), some (.int a0), some (.int a1), some (.int a2), some (.int a1), none]) dX2_first_1 rfl rfl rfl rfl ?_
  refine w_ic dX2_first_3 zi_0 ?_
  refine w_lo (ml' := [some (.ref t), some (.int a0), some (.int a1), some (.int a2), some (.int a1), some (.int 0)]) dX2_first_4 rfl rfl rfl rfl ?_
  exact ih6 M0 a0 a1 a2 a1 0 hJ0 (by omega) (by omega) (by omega) (by omega) (zbot _) (ztop _) (by have := zt_0; omega) (by have := zt_0; omega) (by have := zt_0; omega)
set_option maxRecDepth 100000 in
theorem k_1795 {X : List Int32} {d N : Nat} {M0 : zM} (t : Nat) (ht : zTg t) (p0 : Nat) (hp0 : zDm p0) (p1 : Nat) (hp1 : zRp p1) (a2 : Int32) (ha20 : (0 : Int) ≤ a2.toInt) (ha21 : a2.toInt ≤ 11) (a3 : Int32) (ha30 : (1 : Int) ≤ a3.toInt) (ha31 : a3.toInt ≤ 2147483647) (hN : N ≤ 600) (hB0 : zB N M0) : ZV X (d + 4) 1795 [.ref t, .ref p0, .ref p1, .int a2, .int a3] M0 (zRI N [(p0 + 19, p0 + 21, 1000), (t, t + 1, 1), (t + 1, t + 2, 1000)] M0 (0) (2147483647) (fun _ _ => True)) := by
  have hbp0 := zDm_b hp0
  have hbp1 := zRp_b hp1
  have hbt := zTg_b ht
  have hJ0 : zJ N [(p0 + 19, p0 + 21, 1000), (t, t + 1, 1), (t + 1, t + 2, 1000)] M0 M0 := zJ_refl hB0
  refine ZV.of (ini := false) rfl (Nat.le_of_ble_eq_true rfl) (by decide +kernel) ?_
  have main : ∀ n : Nat,
      (∀ (M : zM) (o59_2 : Option Value) (v59_3 : Int32) (v59_4 : Int32) (v59_5 : Int32), zJ N [(p0 + 19, p0 + 21, 1000), (t, t + 1, 1), (t + 1, t + 2, 1000)] M0 M → ((0 : Int) ≤ v59_3.toInt) → (v59_3.toInt ≤ 11) → ((1 : Int) ≤ v59_4.toInt) → (v59_4.toInt ≤ 2147483647) → ((0 : Int) ≤ v59_5.toInt) → (v59_5.toInt ≤ 11) → 1 < (n : Int) → ZW X (d + 3) 7 false (some .int) cX7_passedOn (zRI N [(p0 + 19, p0 + 21, 1000), (t, t + 1, 1), (t + 1, t + 2, 1000)] M0 (0) (2147483647) (fun _ _ => True)) (59, [some (.ref t), some (.ref p0), o59_2, some (.int v59_3), some (.int v59_4), some (.int v59_5)], [], M)) := by
    intro n
    induction n with
    | zero =>
      exact (fun M o59_2 v59_3 v59_4 v59_5 hJ v59_30 v59_31 v59_40 v59_41 v59_50 v59_51 hn => absurd hn (by omega))
    | succ n ih =>
      have ih59 := ih
      · intro M o59_2 v59_3 v59_4 v59_5 hJ v59_30 v59_31 v59_40 v59_41 v59_50 v59_51 hn
        refine w_lo dX7_passedOn_59 rfl rfl rfl rfl ?_
        refine w_lo dX7_passedOn_61 rfl rfl rfl rfl ?_
        refine w_gf dX7_passedOn_62 rfl hJ.1.1 (zs_1_0 hp0) (zr_1_0_15 hp0 hJ.1) ?_
        refine w_ic dX7_passedOn_65 zi_1 ?_
        refine w_lo dX7_passedOn_66 rfl rfl rfl rfl ?_
        refine w_gf dX7_passedOn_67 rfl hJ.1.1 (zs_1_0 hp0) (zr_1_0_5 hp0 hJ.1) ?_
        refine w_lo dX7_passedOn_70 rfl rfl rfl rfl ?_
        refine w_iai dX7_passedOn_72 hJ.1 (zs_1_3 hp0) (by omega) (by omega) (zu_1_3 hp0) ?_
        intro x4 f1 h2 h3
        refine w_si dX7_passedOn_73 (c := 9999) (by decide) ?_
        refine w_iv dX7_passedOn_76 rfl rfl (As := [.int 1, .int x4, .int 9999]) rfl rfl hJ.1.1 (zs_1_13 hp0) (Nat.le_of_ble_eq_true rfl) ?_
        refine ZV.imp (k_518 (p0 + 13) (zLw_of hp0) 1 (by have := zt_1; omega) (by have := zt_1; omega) x4 9999 (by have := zt_9999; omega) (by have := zt_9999; omega) hN hJ.1) ?_
        rintro _ ⟨x8, M5, rfl, h9, h10, hJ6, hq7⟩
        have hJ11 := zJ_trans hJ hJ6 (zSub_cons (fun _ _ h h' hk => zIR_a (by omega) (by omega)) zSub_nil)
        show ZW _ _ _ _ _ _ _ (79, [some (.ref t), some (.ref p0), o59_2, some (.int v59_3), some (.int v59_4), some (.int v59_5)], [.int x8, .int v59_4], M5)
        rcases zcut x8.toInt v59_4.toInt with h12 | h12
        · skip
          refine w_cle_f dX7_passedOn_79 (t := 96) rfl (by omega) ?_
          refine w_lo dX7_passedOn_82 rfl rfl rfl rfl ?_
          refine w_pu dX7_passedOn_83 rfl rfl ?_
          refine w_gfi dX7_passedOn_84 rfl hJ11.1 (zs_7_0 ht) (Nat.le_of_ble_eq_true rfl) (zo_7_0_1 ht) ?_
          intro x13 f14 h15 h16
          refine w_ic dX7_passedOn_87 zi_1 ?_
          refine w_lo dX7_passedOn_88 rfl rfl rfl rfl ?_
          refine w_shl dX7_passedOn_89 (by omega) (by omega) (m := 11) (by omega) ?_
          intro x17 h18 h19
          have : (2 : Int) ^ 11 = 2048 := by decide
          refine w_or dX7_passedOn_90 (m := 12) (by decide) (by omega) (by omega) (by omega) (by omega) ?_
          intro x20 h21 h22
          have : (2 : Int) ^ 12 = 4096 := by decide
          refine w_pfi dX7_passedOn_91 rfl hJ11 (zs_7_0 ht) (Nat.le_of_ble_eq_true rfl) (zo_7_0_1 ht) (by omega) (by omega) (zIR_s (zIR_k (by omega) (by omega))) rfl rfl rfl ?_
          intro M23 hJ24 f25 hn26
          refine w_ic dX7_passedOn_94 zi_0 ?_
          refine w_en dX7_passedOn_95 rfl ?_
          exact ⟨_, _, rfl, (by have := zt_0; omega), (ztop _), hJ24, trivial⟩
        · skip
          refine w_cle_t dX7_passedOn_79 (t := 96) rfl (by omega) ?_
          refine w_lo dX7_passedOn_96 rfl rfl rfl rfl ?_
          refine w_gf dX7_passedOn_97 rfl hJ11.1.1 (zs_1_0 hp0) (zr_1_0_15 hp0 hJ11.1) ?_
          refine w_ic dX7_passedOn_100 zi_0 ?_
          refine w_lo dX7_passedOn_101 rfl rfl rfl rfl ?_
          refine w_lo dX7_passedOn_103 rfl rfl rfl rfl ?_
          refine w_gf dX7_passedOn_104 rfl hJ11.1.1 (zs_1_0 hp0) (zr_1_0_4 hp0 hJ11.1) ?_
          refine w_lo dX7_passedOn_107 rfl rfl rfl rfl ?_
          refine w_iai dX7_passedOn_109 hJ11.1 (zs_1_2 hp0) (by omega) (by omega) (zu_1_2 hp0) ?_
          intro x30 f27 h28 h29
          refine w_puI dX7_passedOn_110 rfl rfl ?_
          intro x31
          refine w_lo dX7_passedOn_111 rfl rfl rfl rfl ?_
          refine w_iv dX7_passedOn_113 rfl rfl (As := [.int 0, .int x31, .int v59_4]) rfl rfl hJ11.1.1 (zs_1_13 hp0) (Nat.le_of_ble_eq_true rfl) ?_
          refine ZV.imp (k_518 (p0 + 13) (zLw_of hp0) 0 (by have := zt_0; omega) (by have := zt_0; omega) x31 v59_4 (by omega) (by omega) hN hJ11.1) ?_
          rintro _ ⟨x35, M32, rfl, h36, h37, hJ33, hq34⟩
          have hJ38 := zJ_trans hJ11 hJ33 (zSub_cons (fun _ _ h h' hk => zIR_a (by omega) (by omega)) zSub_nil)
          show ZW _ _ _ _ _ _ _ (116, [some (.ref t), some (.ref p0), o59_2, some (.int v59_3), some (.int v59_4), some (.int v59_5)], [.int x35], M32)
          refine w_eni dX7_passedOn_116 rfl rfl ?_
          exact ⟨_, _, rfl, (by omega), (ztop _), hJ38, trivial⟩
  have ih59 := main 6
  show ZW _ _ _ _ _ _ _ (0, [some (.ref t), some (.ref p0), some (.ref p1), some (.int a2), some (.int a3), none], [], M0)
  refine w_lo dX7_passedOn_0 rfl rfl rfl rfl ?_
  refine w_gf dX7_passedOn_1 rfl hJ0.1.1 (zs_7_0 ht) (zr_7_0_0 ht hJ0.1) ?_
  refine w_lo dX7_passedOn_4 rfl rfl rfl rfl ?_
  refine w_lo dX7_passedOn_5 rfl rfl rfl rfl ?_
  refine w_isi dX7_passedOn_7 hJ0 (zs_7_1 ht) (by omega) (by omega) (zu_7_1 ht) (by omega) (ztop _) (zIR_s (zIR_s (zIR_a (by omega) (by omega)))) ?_
  intro M39 hJ40 f41 hn42
  refine w_lo dX7_passedOn_8 rfl rfl rfl rfl ?_
  refine w_gf dX7_passedOn_9 rfl hJ40.1.1 (zs_6_0 hp1) (zr_6_0_2 hp1 hJ40.1) ?_
  refine w_lo dX7_passedOn_12 rfl rfl rfl rfl ?_
  refine w_iai dX7_passedOn_13 hJ40.1 (zs_6_1 hp1) (by omega) (by omega) (zu_6_1 hp1) ?_
  intro x46 f43 h44 h45
  refine w_lo (ml' := [some (.ref t), some (.ref p0), some (.ref p1), some (.int a2), some (.int a3), some (.int x46)]) dX7_passedOn_14 rfl rfl rfl rfl ?_
  refine w_lo dX7_passedOn_16 rfl rfl rfl rfl ?_
  refine w_lo dX7_passedOn_17 rfl rfl rfl rfl ?_
  refine w_iv dX7_passedOn_19 rfl rfl (As := [.int x46]) rfl rfl hJ40.1.1 (zs_1_0 hp0) (Nat.le_of_ble_eq_true rfl) ?_
  refine ZV.imp (k_260 p0 hp0 x46 (by omega) (by omega) hN hJ40.1) ?_
  rintro _ ⟨x50, M47, rfl, h51, h52, hJ48, hq49⟩
  have hJ53 := zJ_trans hJ40 hJ48 zSub_nil
  show ZW _ _ _ _ _ _ _ (22, [some (.ref t), some (.ref p0), some (.ref p1), some (.int a2), some (.int a3), some (.int x46)], [.int x50], M47)
  rcases Int.decEq x50.toInt (0 : Int) with h54 | h54
  · skip
    refine w_ieq_f dX7_passedOn_22 (t := 28) rfl (by omega) ?_
    refine w_lo dX7_passedOn_25 rfl rfl rfl rfl ?_
    refine w_eni dX7_passedOn_27 rfl rfl ?_
    exact ⟨_, _, rfl, (by omega), (ztop _), hJ53, trivial⟩
  · skip
    refine w_ieq_t dX7_passedOn_22 (t := 28) rfl (by omega) ?_
    refine w_lo dX7_passedOn_28 rfl rfl rfl rfl ?_
    refine w_gf dX7_passedOn_29 rfl hJ53.1.1 (zs_6_0 hp1) (zr_6_0_3 hp1 hJ53.1) ?_
    refine w_lo dX7_passedOn_32 rfl rfl rfl rfl ?_
    refine w_bai dX7_passedOn_34 hJ53.1 (zs_6_2 hp1) (by omega) (by omega) (zu_6_2 hp1) ?_
    intro x58 f55 h56 h57
    rcases Int.decEq x58.toInt (0 : Int) with h59 | h59
    · skip
      refine w_ine_t dX7_passedOn_35 (t := 40) rfl (by omega) ?_
      refine w_lo dX7_passedOn_40 rfl rfl rfl rfl ?_
      refine w_gf dX7_passedOn_41 rfl hJ53.1.1 (zs_1_0 hp0) (zr_1_0_15 hp0 hJ53.1) ?_
      refine w_gfi dX7_passedOn_44 rfl hJ53.1 (zs_1_13 hp0) (Nat.le_of_ble_eq_true rfl) (zo_1_13_0 hp0) ?_
      intro x60 f61 h62 h63
      rcases zcut (0 : Int) x60.toInt with h64 | h64
      · skip
        refine w_ile_f dX7_passedOn_47 (t := 59) rfl (by omega) ?_
        refine w_lo dX7_passedOn_50 rfl rfl rfl rfl ?_
        refine w_lo dX7_passedOn_51 rfl rfl rfl rfl ?_
        refine w_lo dX7_passedOn_52 rfl rfl rfl rfl ?_
        refine w_lo dX7_passedOn_53 rfl rfl rfl rfl ?_
        refine w_lo dX7_passedOn_54 rfl rfl rfl rfl ?_
        refine w_iv dX7_passedOn_56 rfl rfl (As := [.ref p0, .ref p1, .int a2, .int a3]) rfl rfl hJ53.1.1 (zs_7_0 ht) (Nat.le_of_ble_eq_true rfl) ?_
        refine ZV.imp (k_1793 t ht p0 hp0 p1 hp1 a2 (by omega) (by omega) a3 (by omega) (ztop _) hN hJ53.1) ?_
        rintro _ ⟨M65, rfl, hJ66, hq67⟩
        have hJ68 := zJ_trans hJ53 hJ66 (zSub_cons (fun _ _ h h' hk => zIR_a (by omega) (by omega)) zSub_nil)
        show ZW _ _ _ _ _ _ _ (59, [some (.ref t), some (.ref p0), some (.ref p1), some (.int a2), some (.int a3), some (.int x46)], [], M65)
        exact ih59 M65 (some (.ref p1)) a2 a3 x46 hJ68 (by omega) (by omega) (by omega) (ztop _) (by omega) (by omega) (by omega)
      · skip
        refine w_ile_t dX7_passedOn_47 (t := 59) rfl (by omega) ?_
        exact ih59 M47 (some (.ref p1)) a2 a3 x46 hJ53 (by omega) (by omega) (by omega) (ztop _) (by omega) (by omega) (by omega)
    · skip
      refine w_ine_f dX7_passedOn_35 (t := 40) rfl (by omega) ?_
      refine w_ic dX7_passedOn_38 zi_0 ?_
      refine w_en dX7_passedOn_39 rfl ?_
      exact ⟨_, _, rfl, (by have := zt_0; omega), (ztop _), hJ53, trivial⟩
set_option maxRecDepth 100000 in
theorem k_3072 {X : List Int32} {d N : Nat} {M0 : zM} (p0 n0 : Nat) (lo0 hi0 : Int) (he0 : zS0[p0]? = some (10, n0)) (hu0 : ∀ k, zT p0 k = (0, lo0, hi0)) (hn0 : n0 ≤ 1601) (hl0 : lo0 ≤ 0) (hh0 : 0 ≤ hi0) (a1 : Int32) (ha10 : (0 : Int) ≤ a1.toInt) (ha11 : a1.toInt ≤ 0) (hN : N ≤ 600) (hB0 : zB N M0) : ZV X (d + 1) 3072 [.ref p0, .int a1] M0 (zRV N [(p0, p0 + 1, 1000)] M0 (fun _ => True)) := by
  have hJ0 : zJ N [(p0, p0 + 1, 1000)] M0 M0 := zJ_refl hB0
  refine ZV.of (ini := false) rfl (Nat.le_of_ble_eq_true rfl) (by decide +kernel) ?_
  have main : ∀ n : Nat,
      (∀ (M : zM) (v5_1 : Int32) (v5_2 : Int32) (v5_3 : Int32), zJ N [(p0, p0 + 1, 1000)] M0 M → ((0 : Int) ≤ v5_1.toInt) → (v5_1.toInt ≤ 0) → ((0 : Int) ≤ v5_2.toInt) → (v5_2.toInt ≤ 1601) → ((0 : Int) ≤ v5_3.toInt) → (v5_3.toInt ≤ 1601) → (v5_3.toInt = (n0 : Int)) → 3 * (1601 - v5_2.toInt) + 1 < (n : Int) → ZW X (d + 0) 12 false none cJ7_fill_53178 (zRV N [(p0, p0 + 1, 1000)] M0 (fun _ => True)) (5, [some (.ref p0), some (.int v5_1), some (.int v5_2), some (.int v5_3)], [], M)) := by
    intro n
    induction n with
    | zero =>
      exact (fun M v5_1 v5_2 v5_3 hJ v5_10 v5_11 v5_20 v5_21 v5_30 v5_31 ann0 hn => absurd hn (by omega))
    | succ n ih =>
      have ih5 := ih
      · intro M v5_1 v5_2 v5_3 hJ v5_10 v5_11 v5_20 v5_21 v5_30 v5_31 ann0 hn
        refine w_lo dJ7_fill_53178_5 rfl rfl rfl rfl ?_
        refine w_lo dJ7_fill_53178_6 rfl rfl rfl rfl ?_
        rcases zcut v5_2.toInt v5_3.toInt with h1 | h1
        · skip
          refine w_cge_f dJ7_fill_53178_7 (t := 20) rfl (by omega) ?_
          refine w_lo dJ7_fill_53178_10 rfl rfl rfl rfl ?_
          refine w_lo dJ7_fill_53178_11 rfl rfl rfl rfl ?_
          refine w_lo dJ7_fill_53178_12 rfl rfl rfl rfl ?_
          refine w_isi dJ7_fill_53178_13 hJ he0 (by omega) (by omega) hu0 (by omega) (by omega) (zIR_a (by omega) (by omega)) ?_
          intro M2 hJ3 f4 hn5
          refine w_inc (kk := 2) dJ7_fill_53178_14 rfl (m := 1) (by decide) (by omega) ?_
          intro x6 h7
          refine ⟨_, rfl, ?_⟩
          show ZW _ _ _ _ _ _ _ (17, [some (.ref p0), some (.int v5_1), some (.int x6), some (.int v5_3)], [], M2)
          refine w_gt dJ7_fill_53178_17 (t := 5) rfl ?_
          exact ih5 M2 v5_1 x6 v5_3 hJ3 (by omega) (by omega) (by omega) (by omega) (by omega) (by omega) (by omega) (by omega)
        · skip
          refine w_cge_t dJ7_fill_53178_7 (t := 20) rfl (by omega) ?_
          refine w_en dJ7_fill_53178_20 rfl ?_
          exact ⟨_, rfl, hJ, trivial⟩
  have ih5 := main 4815
  show ZW _ _ _ _ _ _ _ (0, [some (.ref p0), some (.int a1), none, none], [], M0)
  refine w_ic dJ7_fill_53178_0 zi_0 ?_
  refine w_lo (ml' := [some (.ref p0), some (.int a1), some (.int 0), none]) dJ7_fill_53178_1 rfl rfl rfl rfl ?_
  refine w_lo dJ7_fill_53178_2 rfl rfl rfl rfl ?_
  refine w_alp dJ7_fill_53178_3 hJ0.1.1 he0 hn0 ?_
  intro x8 h9
  refine w_lo (ml' := [some (.ref p0), some (.int a1), some (.int 0), some (.int x8)]) dJ7_fill_53178_4 rfl rfl rfl rfl ?_
  exact ih5 M0 a1 0 x8 hJ0 (by omega) (by omega) (by have := zt_0; omega) (by have := zt_0; omega) (by omega) (by omega) (by have := zt_0; omega) (by have := zt_0; omega)
set_option maxRecDepth 100000 in
theorem k_1794 {X : List Int32} {d N : Nat} {M0 : zM} (t : Nat) (ht : zTg t) (p0 : Nat) (hp0 : zDm p0) (p1 : Nat) (hp1 : zRp p1) (a2 : Int32) (ha20 : (-1 : Int) ≤ a2.toInt) (ha21 : a2.toInt ≤ 11) (a3 : Int32) (hN : N ≤ 600) (hB0 : zB N M0) : ZV X (d + 5) 1794 [.ref t, .ref p0, .ref p1, .int a2, .int a3] M0 (zRV N [(p0 + 19, p0 + 21, 1000), (t, t + 1, 1), (t + 1, t + 2, 1000)] M0 (fun _ => True)) := by
  have hbp0 := zDm_b hp0
  have hbp1 := zRp_b hp1
  have hbt := zTg_b ht
  have hJ0 : zJ N [(p0 + 19, p0 + 21, 1000), (t, t + 1, 1), (t + 1, t + 2, 1000)] M0 M0 := zJ_refl hB0
  refine ZV.of (ini := false) rfl (Nat.le_of_ble_eq_true rfl) (by decide +kernel) ?_
  have main : ∀ n : Nat,
      (∀ (M : zM) (v35_3 : Int32) (v35_4 : Int32) (v35_5 : Int32) (v35_6 : Int32), zJ N [(p0 + 19, p0 + 21, 1000), (t, t + 1, 1), (t + 1, t + 2, 1000)] M0 M → ((0 : Int) ≤ v35_3.toInt) → (v35_3.toInt ≤ 11) → ((-2147483648 : Int) ≤ v35_4.toInt) → (v35_4.toInt ≤ 2147483647) → ((-2147483648 : Int) ≤ v35_5.toInt) → (v35_5.toInt ≤ 2147483647) → ((1 : Int) ≤ v35_6.toInt) → (v35_6.toInt ≤ 12) → 4 * (12 - v35_6.toInt) + 54 < (n : Int) → ZW X (d + 4) 7 false none cX7_goes (zRV N [(p0 + 19, p0 + 21, 1000), (t, t + 1, 1), (t + 1, t + 2, 1000)] M0 (fun _ => True)) (35, [some (.ref t), some (.ref p0), some (.ref p1), some (.int v35_3), some (.int v35_4), some (.int v35_5), some (.int v35_6)], [], M)) ∧
      (∀ (M : zM) (u105_3 : Int32) (u105_4 : Int32) (v105_5 : Int32) (v105_6 : Int32), zJ N [(p0 + 19, p0 + 21, 1000), (t, t + 1, 1), (t + 1, t + 2, 1000)] M0 M → ((-2147483648 : Int) ≤ v105_5.toInt) → (v105_5.toInt ≤ 2147483647) → ((-1 : Int) ≤ v105_6.toInt) → (v105_6.toInt ≤ 10) → 4 * (v105_6.toInt - (-1)) + 1 < (n : Int) → ZW X (d + 4) 7 false none cX7_goes (zRV N [(p0 + 19, p0 + 21, 1000), (t, t + 1, 1), (t + 1, t + 2, 1000)] M0 (fun _ => True)) (105, [some (.ref t), some (.ref p0), some (.ref p1), some (.int u105_3), some (.int u105_4), some (.int v105_5), some (.int v105_6)], [], M)) := by
    intro n
    induction n with
    | zero =>
      exact ⟨(fun M v35_3 v35_4 v35_5 v35_6 hJ v35_30 v35_31 v35_40 v35_41 v35_50 v35_51 v35_60 v35_61 hn => absurd hn (by omega)), (fun M u105_3 u105_4 v105_5 v105_6 hJ v105_50 v105_51 v105_60 v105_61 hn => absurd hn (by omega))⟩
    | succ n ih =>
      obtain ⟨ih35, ih105⟩ := ih
      refine ⟨?_, ?_⟩
      · intro M v35_3 v35_4 v35_5 v35_6 hJ v35_30 v35_31 v35_40 v35_41 v35_50 v35_51 v35_60 v35_61 hn
        refine w_lo dX7_goes_35 rfl rfl rfl rfl ?_
        refine w_lo dX7_goes_37 rfl rfl rfl rfl ?_
        refine w_gfi dX7_goes_38 rfl hJ.1 (zs_6_0 hp1) (Nat.le_of_ble_eq_true rfl) (zo_6_0_0 hp1) ?_
        intro x1 f2 h3 h4
        rcases zcut v35_6.toInt x1.toInt with h5 | h5
        · skip
          refine w_cge_f dX7_goes_41 (t := 96) rfl (by omega) ?_
          refine w_lo dX7_goes_44 rfl rfl rfl rfl ?_
          refine w_gf dX7_goes_45 rfl hJ.1.1 (zs_6_0 hp1) (zr_6_0_12 hp1 hJ.1) ?_
          refine w_lo dX7_goes_48 rfl rfl rfl rfl ?_
          refine w_ic dX7_goes_50 zi_1 ?_
          refine w_sub dX7_goes_51 (by have := zt_1; omega) ?_
          intro x6 h7
          have := zt_1
          refine w_bai dX7_goes_52 hJ.1 (zs_6_11 hp1) (by omega) (by omega) (zu_6_11 hp1) ?_
          intro x11 f8 h9 h10
          rcases Int.decEq x11.toInt (0 : Int) with h12 | h12
          · skip
            refine w_ieq_f dX7_goes_53 (t := 96) rfl (by omega) ?_
            refine w_lo dX7_goes_56 rfl rfl rfl rfl ?_
            refine w_lo dX7_goes_58 rfl rfl rfl rfl ?_
            refine w_gf dX7_goes_59 rfl hJ.1.1 (zs_6_0 hp1) (zr_6_0_13 hp1 hJ.1) ?_
            refine w_lo dX7_goes_62 rfl rfl rfl rfl ?_
            refine w_ic dX7_goes_64 zi_1 ?_
            refine w_sub dX7_goes_65 (by have := zt_1; omega) ?_
            intro x13 h14
            have := zt_1
            refine w_iai dX7_goes_66 hJ.1 (zs_6_12 hp1) (by omega) (by omega) (zu_6_12 hp1) ?_
            intro x18 f15 h16 h17
            refine w_puI dX7_goes_67 rfl rfl ?_
            intro x19
            refine w_lo (ml' := [some (.ref t), some (.ref p0), some (.ref p1), some (.int v35_3), some (.int v35_4), some (.int x19), some (.int v35_6)]) dX7_goes_68 rfl rfl rfl rfl ?_
            refine w_lo dX7_goes_70 rfl rfl rfl rfl ?_
            rcases zcut (0 : Int) x19.toInt with h20 | h20
            · skip
              refine w_igt_t dX7_goes_72 (t := 78) rfl (by omega) ?_
              refine w_lo dX7_goes_78 rfl rfl rfl rfl ?_
              refine w_lo dX7_goes_79 rfl rfl rfl rfl ?_
              refine w_lo dX7_goes_80 rfl rfl rfl rfl ?_
              refine w_lo dX7_goes_81 rfl rfl rfl rfl ?_
              refine w_lo dX7_goes_83 rfl rfl rfl rfl ?_
              refine w_iv dX7_goes_85 rfl rfl (As := [.ref p0, .ref p1, .int v35_6, .int x19]) rfl rfl hJ.1.1 (zs_7_0 ht) (Nat.le_of_ble_eq_true rfl) ?_
              refine ZV.imp (k_1795 t ht p0 hp0 p1 hp1 v35_6 (by omega) (by omega) x19 (by omega) (ztop _) hN hJ.1) ?_
              rintro _ ⟨x24, M21, rfl, h25, h26, hJ22, hq23⟩
              have hJ27 := zJ_trans hJ hJ22 (zSub_cons (fun _ _ h h' hk => zIR_a (by omega) (by omega)) (zSub_cons (fun _ _ h h' hk => zIR_s (zIR_e (by omega) (by omega) hk)) (zSub_cons (fun _ _ h h' hk => zIR_s (zIR_s (zIR_a (by omega) (by omega)))) zSub_nil)))
              show ZW _ _ _ _ _ _ _ (88, [some (.ref t), some (.ref p0), some (.ref p1), some (.int v35_3), some (.int v35_4), some (.int x19), some (.int v35_6)], [.int x24], M21)
              refine w_lo (ml' := [some (.ref t), some (.ref p0), some (.ref p1), some (.int v35_3), some (.int v35_4), some (.int x24), some (.int v35_6)]) dX7_goes_88 rfl rfl rfl rfl ?_
              refine w_inc (kk := 6) dX7_goes_90 rfl (m := 1) (by decide) (by omega) ?_
              intro x28 h29
              refine ⟨_, rfl, ?_⟩
              show ZW _ _ _ _ _ _ _ (93, [some (.ref t), some (.ref p0), some (.ref p1), some (.int v35_3), some (.int v35_4), some (.int x24), some (.int x28)], [], M21)
              refine w_gt dX7_goes_93 (t := 35) rfl ?_
              exact ih35 M21 v35_3 v35_4 x24 x28 hJ27 (by omega) (by omega) (zbot _) (ztop _) (zbot _) (ztop _) (by omega) (by omega) (by omega)
            · skip
              refine w_igt_f dX7_goes_72 (t := 78) rfl (by omega) ?_
              refine w_gt dX7_goes_75 (t := 96) rfl ?_
              refine w_lo dX7_goes_96 rfl rfl rfl rfl ?_
              refine w_lo (ml' := [some (.ref t), some (.ref p0), some (.ref p1), some (.int v35_3), some (.int v35_4), some (.int v35_4), some (.int v35_6)]) dX7_goes_98 rfl rfl rfl rfl ?_
              refine w_lo dX7_goes_100 rfl rfl rfl rfl ?_
              refine w_ic dX7_goes_101 zi_1 ?_
              refine w_sub dX7_goes_102 (by have := zt_1; omega) ?_
              intro x30 h31
              have := zt_1
              refine w_lo (ml' := [some (.ref t), some (.ref p0), some (.ref p1), some (.int v35_3), some (.int v35_4), some (.int v35_4), some (.int x30)]) dX7_goes_103 rfl rfl rfl rfl ?_
              exact ih105 M v35_3 v35_4 v35_4 x30 hJ (zbot _) (ztop _) (by omega) (by omega) (by omega)
          · skip
            refine w_ieq_t dX7_goes_53 (t := 96) rfl (by omega) ?_
            refine w_lo dX7_goes_96 rfl rfl rfl rfl ?_
            refine w_lo (ml' := [some (.ref t), some (.ref p0), some (.ref p1), some (.int v35_3), some (.int v35_4), some (.int v35_4), some (.int v35_6)]) dX7_goes_98 rfl rfl rfl rfl ?_
            refine w_lo dX7_goes_100 rfl rfl rfl rfl ?_
            refine w_ic dX7_goes_101 zi_1 ?_
            refine w_sub dX7_goes_102 (by have := zt_1; omega) ?_
            intro x32 h33
            have := zt_1
            refine w_lo (ml' := [some (.ref t), some (.ref p0), some (.ref p1), some (.int v35_3), some (.int v35_4), some (.int v35_4), some (.int x32)]) dX7_goes_103 rfl rfl rfl rfl ?_
            exact ih105 M v35_3 v35_4 v35_4 x32 hJ (zbot _) (ztop _) (by omega) (by omega) (by omega)
        · skip
          refine w_cge_t dX7_goes_41 (t := 96) rfl (by omega) ?_
          refine w_lo dX7_goes_96 rfl rfl rfl rfl ?_
          refine w_lo (ml' := [some (.ref t), some (.ref p0), some (.ref p1), some (.int v35_3), some (.int v35_4), some (.int v35_4), some (.int v35_6)]) dX7_goes_98 rfl rfl rfl rfl ?_
          refine w_lo dX7_goes_100 rfl rfl rfl rfl ?_
          refine w_ic dX7_goes_101 zi_1 ?_
          refine w_sub dX7_goes_102 (by have := zt_1; omega) ?_
          intro x34 h35
          have := zt_1
          refine w_lo (ml' := [some (.ref t), some (.ref p0), some (.ref p1), some (.int v35_3), some (.int v35_4), some (.int v35_4), some (.int x34)]) dX7_goes_103 rfl rfl rfl rfl ?_
          exact ih105 M v35_3 v35_4 v35_4 x34 hJ (zbot _) (ztop _) (by omega) (by omega) (by omega)
      · intro M u105_3 u105_4 v105_5 v105_6 hJ v105_50 v105_51 v105_60 v105_61 hn
        refine w_lo dX7_goes_105 rfl rfl rfl rfl ?_
        rcases zcut v105_6.toInt (0 : Int) with h36 | h36
        · skip
          refine w_ilt_t dX7_goes_107 (t := 158) rfl (by omega) ?_
          refine w_en dX7_goes_158 rfl ?_
          exact ⟨_, rfl, hJ, trivial⟩
        · skip
          refine w_ilt_f dX7_goes_107 (t := 158) rfl (by omega) ?_
          refine w_lo dX7_goes_110 rfl rfl rfl rfl ?_
          refine w_gf dX7_goes_111 rfl hJ.1.1 (zs_6_0 hp1) (zr_6_0_12 hp1 hJ.1) ?_
          refine w_lo dX7_goes_114 rfl rfl rfl rfl ?_
          refine w_bai dX7_goes_116 hJ.1 (zs_6_11 hp1) (by omega) (by omega) (zu_6_11 hp1) ?_
          intro x40 f37 h38 h39
          rcases Int.decEq x40.toInt (0 : Int) with h41 | h41
          · skip
            refine w_ieq_f dX7_goes_117 (t := 158) rfl (by omega) ?_
            refine w_lo dX7_goes_120 rfl rfl rfl rfl ?_
            refine w_lo dX7_goes_122 rfl rfl rfl rfl ?_
            refine w_gf dX7_goes_123 rfl hJ.1.1 (zs_6_0 hp1) (zr_6_0_13 hp1 hJ.1) ?_
            refine w_lo dX7_goes_126 rfl rfl rfl rfl ?_
            refine w_iai dX7_goes_128 hJ.1 (zs_6_12 hp1) (by omega) (by omega) (zu_6_12 hp1) ?_
            intro x45 f42 h43 h44
            refine w_puI dX7_goes_129 rfl rfl ?_
            intro x46
            refine w_lo (ml' := [some (.ref t), some (.ref p0), some (.ref p1), some (.int u105_3), some (.int u105_4), some (.int x46), some (.int v105_6)]) dX7_goes_130 rfl rfl rfl rfl ?_
            refine w_lo dX7_goes_132 rfl rfl rfl rfl ?_
            rcases zcut (0 : Int) x46.toInt with h47 | h47
            · skip
              refine w_igt_t dX7_goes_134 (t := 140) rfl (by omega) ?_
              refine w_lo dX7_goes_140 rfl rfl rfl rfl ?_
              refine w_lo dX7_goes_141 rfl rfl rfl rfl ?_
              refine w_lo dX7_goes_142 rfl rfl rfl rfl ?_
              refine w_lo dX7_goes_143 rfl rfl rfl rfl ?_
              refine w_lo dX7_goes_145 rfl rfl rfl rfl ?_
              refine w_iv dX7_goes_147 rfl rfl (As := [.ref p0, .ref p1, .int v105_6, .int x46]) rfl rfl hJ.1.1 (zs_7_0 ht) (Nat.le_of_ble_eq_true rfl) ?_
              refine ZV.imp (k_1795 t ht p0 hp0 p1 hp1 v105_6 (by omega) (by omega) x46 (by omega) (ztop _) hN hJ.1) ?_
              rintro _ ⟨x51, M48, rfl, h52, h53, hJ49, hq50⟩
              have hJ54 := zJ_trans hJ hJ49 (zSub_cons (fun _ _ h h' hk => zIR_a (by omega) (by omega)) (zSub_cons (fun _ _ h h' hk => zIR_s (zIR_e (by omega) (by omega) hk)) (zSub_cons (fun _ _ h h' hk => zIR_s (zIR_s (zIR_a (by omega) (by omega)))) zSub_nil)))
              show ZW _ _ _ _ _ _ _ (150, [some (.ref t), some (.ref p0), some (.ref p1), some (.int u105_3), some (.int u105_4), some (.int x46), some (.int v105_6)], [.int x51], M48)
              refine w_lo (ml' := [some (.ref t), some (.ref p0), some (.ref p1), some (.int u105_3), some (.int u105_4), some (.int x51), some (.int v105_6)]) dX7_goes_150 rfl rfl rfl rfl ?_
              refine w_inc (kk := 6) dX7_goes_152 rfl (m := -1) (by decide) (by omega) ?_
              intro x55 h56
              refine ⟨_, rfl, ?_⟩
              show ZW _ _ _ _ _ _ _ (155, [some (.ref t), some (.ref p0), some (.ref p1), some (.int u105_3), some (.int u105_4), some (.int x51), some (.int x55)], [], M48)
              refine w_gt dX7_goes_155 (t := 105) rfl ?_
              exact ih105 M48 u105_3 u105_4 x51 x55 hJ54 (zbot _) (ztop _) (by omega) (by omega) (by omega)
            · skip
              refine w_igt_f dX7_goes_134 (t := 140) rfl (by omega) ?_
              refine w_gt dX7_goes_137 (t := 158) rfl ?_
              refine w_en dX7_goes_158 rfl ?_
              exact ⟨_, rfl, hJ, trivial⟩
          · skip
            refine w_ieq_t dX7_goes_117 (t := 158) rfl (by omega) ?_
            refine w_en dX7_goes_158 rfl ?_
            exact ⟨_, rfl, hJ, trivial⟩
  obtain ⟨ih35, ih105⟩ := main 111
  show ZW _ _ _ _ _ _ _ (0, [some (.ref t), some (.ref p0), some (.ref p1), some (.int a2), some (.int a3), none, none], [], M0)
  refine w_lo dX7_goes_0 rfl rfl rfl rfl ?_
  refine w_gf dX7_goes_1 rfl hJ0.1.1 (zs_7_0 ht) (zr_7_0_0 ht hJ0.1) ?_
  refine w_ic dX7_goes_4 zi_0 ?_
  refine w_ss dX7_goes_5 rfl rfl (As := [.ref (t + 1), .int 0]) rfl rfl (Nat.le_of_ble_eq_true rfl) ?_
  refine ZV.imp (k_3072 (t + 1) _ _ _ (zs_7_1 ht) (zu_7_1 ht) (Nat.le_of_ble_eq_true rfl) (by decide) (by decide) 0 (by have := zt_0; omega) (by have := zt_0; omega) hN hJ0.1) ?_
  rintro _ ⟨M57, rfl, hJ58, hq59⟩
  have hJ60 := zJ_trans hJ0 hJ58 (zSub_cons (fun _ _ h h' hk => zIR_s (zIR_s (zIR_a (by omega) (by omega)))) zSub_nil)
  show ZW _ _ _ _ _ _ _ (8, [some (.ref t), some (.ref p0), some (.ref p1), some (.int a2), some (.int a3), none, none], [], M57)
  refine w_lo dX7_goes_8 rfl rfl rfl rfl ?_
  refine w_ic dX7_goes_9 zi_0 ?_
  refine w_pfi dX7_goes_10 rfl hJ60 (zs_7_0 ht) (Nat.le_of_ble_eq_true rfl) (zo_7_0_1 ht) (by have := zt_0; omega) (by have := zt_0; omega) (zIR_s (zIR_k (by omega) (by omega))) rfl rfl rfl ?_
  intro M61 hJ62 f63 hn64
  refine w_lo dX7_goes_13 rfl rfl rfl rfl ?_
  rcases zcut a2.toInt (0 : Int) with h65 | h65
  · skip
    refine w_ilt_t dX7_goes_14 (t := 25) rfl (by omega) ?_
    refine w_en dX7_goes_25 rfl ?_
    exact ⟨_, rfl, hJ62, trivial⟩
  · skip
    refine w_ilt_f dX7_goes_14 (t := 25) rfl (by omega) ?_
    refine w_lo dX7_goes_17 rfl rfl rfl rfl ?_
    refine w_lo dX7_goes_18 rfl rfl rfl rfl ?_
    refine w_gfi dX7_goes_19 rfl hJ62.1 (zs_6_0 hp1) (Nat.le_of_ble_eq_true rfl) (zo_6_0_0 hp1) ?_
    intro x66 f67 h68 h69
    rcases zcut a2.toInt x66.toInt with h70 | h70
    · skip
      refine w_clt_t dX7_goes_22 (t := 26) rfl (by omega) ?_
      refine w_lo dX7_goes_26 rfl rfl rfl rfl ?_
      refine w_lo (ml' := [some (.ref t), some (.ref p0), some (.ref p1), some (.int a2), some (.int a3), some (.int a3), none]) dX7_goes_28 rfl rfl rfl rfl ?_
      refine w_lo dX7_goes_30 rfl rfl rfl rfl ?_
      refine w_ic dX7_goes_31 zi_1 ?_
      refine w_add dX7_goes_32 (by have := zt_1; omega) ?_
      intro x71 h72
      have := zt_1
      refine w_lo (ml' := [some (.ref t), some (.ref p0), some (.ref p1), some (.int a2), some (.int a3), some (.int a3), some (.int x71)]) dX7_goes_33 rfl rfl rfl rfl ?_
      exact ih35 M61 a2 a3 a3 x71 hJ62 (by omega) (by omega) (zbot _) (ztop _) (zbot _) (ztop _) (by omega) (by omega) (by omega)
    · skip
      refine w_clt_f dX7_goes_22 (t := 26) rfl (by omega) ?_
      refine w_en dX7_goes_25 rfl ?_
      exact ⟨_, rfl, hJ62, trivial⟩
set_option maxRecDepth 100000 in
theorem k_2816 {X : List Int32} {d N : Nat} {M0 : zM} (a0 : Int32) (ha00 : (0 : Int) ≤ a0.toInt) (ha01 : a0.toInt ≤ 4095) (hN : N ≤ 600) (hB0 : zB N M0) : ZV X (d + 1) 2816 [.int a0] M0 (zRI N [] M0 (0) (63) (fun _ _ => True)) := by
  have hJ0 : zJ N [] M0 M0 := zJ_refl hB0
  refine ZV.of (ini := false) rfl (Nat.le_of_ble_eq_true rfl) (by decide +kernel) ?_
  show ZW _ _ _ _ _ _ _ (0, [some (.int a0)], [], M0)
  refine w_lo dJ6_bitCount_0f7a4_0 rfl rfl rfl rfl ?_
  refine w_lo dJ6_bitCount_0f7a4_1 rfl rfl rfl rfl ?_
  refine w_ic dJ6_bitCount_0f7a4_2 zi_1 ?_
  refine w_puI dJ6_bitCount_0f7a4_3 rfl rfl ?_
  intro x1
  refine w_me (st' := [.int 1431655765, .int x1, .int a0]) dJ6_bitCount_0f7a4_4 rfl rfl rfl rfl rfl ?_
  refine w_and dJ6_bitCount_0f7a4_7 (m := 1431655765) zt_1431655765 (by omega) ?_
  intro x2 h3 h4
  refine w_sub dJ6_bitCount_0f7a4_8 (by omega) ?_
  intro x5 h6
  refine w_lo (ml' := [some (.int x5)]) dJ6_bitCount_0f7a4_9 rfl rfl rfl rfl ?_
  refine w_lo dJ6_bitCount_0f7a4_10 rfl rfl rfl rfl ?_
  refine w_me (st' := [.int 858993459, .int x5]) dJ6_bitCount_0f7a4_11 rfl rfl rfl rfl rfl ?_
  refine w_and dJ6_bitCount_0f7a4_14 (m := 858993459) zt_858993459 (by omega) ?_
  intro x7 h8 h9
  refine w_lo dJ6_bitCount_0f7a4_15 rfl rfl rfl rfl ?_
  refine w_ic dJ6_bitCount_0f7a4_16 zi_2 ?_
  refine w_puI dJ6_bitCount_0f7a4_17 rfl rfl ?_
  intro x10
  refine w_me (st' := [.int 858993459, .int x10, .int x7]) dJ6_bitCount_0f7a4_18 rfl rfl rfl rfl rfl ?_
  refine w_and dJ6_bitCount_0f7a4_21 (m := 858993459) zt_858993459 (by omega) ?_
  intro x11 h12 h13
  refine w_add dJ6_bitCount_0f7a4_22 (by omega) ?_
  intro x14 h15
  refine w_lo (ml' := [some (.int x14)]) dJ6_bitCount_0f7a4_23 rfl rfl rfl rfl ?_
  refine w_lo dJ6_bitCount_0f7a4_24 rfl rfl rfl rfl ?_
  refine w_lo dJ6_bitCount_0f7a4_25 rfl rfl rfl rfl ?_
  refine w_ic dJ6_bitCount_0f7a4_26 zi_4 ?_
  refine w_puI dJ6_bitCount_0f7a4_27 rfl rfl ?_
  intro x16
  refine w_puI dJ6_bitCount_0f7a4_28 rfl rfl ?_
  intro x17
  refine w_me (st' := [.int 252645135, .int x17]) dJ6_bitCount_0f7a4_29 rfl rfl rfl rfl rfl ?_
  refine w_and dJ6_bitCount_0f7a4_32 (m := 252645135) zt_252645135 (by omega) ?_
  intro x18 h19 h20
  refine w_lo (ml' := [some (.int x18)]) dJ6_bitCount_0f7a4_33 rfl rfl rfl rfl ?_
  refine w_lo dJ6_bitCount_0f7a4_34 rfl rfl rfl rfl ?_
  refine w_lo dJ6_bitCount_0f7a4_35 rfl rfl rfl rfl ?_
  refine w_bi dJ6_bitCount_0f7a4_36 (c := 8) (by decide) ?_
  refine w_puI dJ6_bitCount_0f7a4_38 rfl rfl ?_
  intro x21
  refine w_puI dJ6_bitCount_0f7a4_39 rfl rfl ?_
  intro x22
  refine w_lo (ml' := [some (.int x22)]) dJ6_bitCount_0f7a4_40 rfl rfl rfl rfl ?_
  refine w_lo dJ6_bitCount_0f7a4_41 rfl rfl rfl rfl ?_
  refine w_lo dJ6_bitCount_0f7a4_42 rfl rfl rfl rfl ?_
  refine w_bi dJ6_bitCount_0f7a4_43 (c := 16) (by decide) ?_
  refine w_puI dJ6_bitCount_0f7a4_45 rfl rfl ?_
  intro x23
  refine w_puI dJ6_bitCount_0f7a4_46 rfl rfl ?_
  intro x24
  refine w_lo (ml' := [some (.int x24)]) dJ6_bitCount_0f7a4_47 rfl rfl rfl rfl ?_
  refine w_lo dJ6_bitCount_0f7a4_48 rfl rfl rfl rfl ?_
  refine w_bi dJ6_bitCount_0f7a4_49 (c := 63) (by decide) ?_
  refine w_and dJ6_bitCount_0f7a4_51 (m := 63) zt_63 (by omega) ?_
  intro x25 h26 h27
  refine w_eni dJ6_bitCount_0f7a4_52 rfl rfl ?_
  exact ⟨_, _, rfl, (by omega), (by omega), hJ0, trivial⟩
set_option maxRecDepth 100000 in
theorem k_1027 {X : List Int32} {d N : Nat} {M0 : zM} (p0 : Nat) (hp0 : zDm p0) (hN : N ≤ 600) (hB0 : zB N M0) : ZV X (d + 6) 1027 [.ref 364, .ref p0] M0 (zRI N [(p0 + 19, p0 + 21, 1000), (381, 382, 1), (382, 383, 1000)] M0 (-2147483648) (2147483647) (fun _ _ => True)) := by
  have hbp0 := zDm_b hp0
  have hJ0 : zJ N [(p0 + 19, p0 + 21, 1000), (381, 382, 1), (382, 383, 1000)] M0 M0 := zJ_refl hB0
  refine ZV.of (ini := false) rfl (Nat.le_of_ble_eq_true rfl) (by decide +kernel) ?_
  have main : ∀ n : Nat,
      (∀ (M : zM) (v4_2 : Int32) (v4_3 : Int32) (o4_4 : Option Value) (o4_5 : Option Value) (o4_6 : Option Value), zJ N [(p0 + 19, p0 + 21, 1000), (381, 382, 1), (382, 383, 1000)] M0 M → ((-2147483648 : Int) ≤ v4_2.toInt) → (v4_2.toInt ≤ 2147483647) → ((0 : Int) ≤ v4_3.toInt) → (v4_3.toInt ≤ 12) → 36 * (12 - v4_3.toInt) + 34 < (n : Int) → ZW X (d + 5) 4 false (some .int) cX4_badness (zRI N [(p0 + 19, p0 + 21, 1000), (381, 382, 1), (382, 383, 1000)] M0 (-2147483648) (2147483647) (fun _ _ => True)) (4, [some (.ref 364), some (.ref p0), some (.int v4_2), some (.int v4_3), o4_4, o4_5, o4_6], [], M)) ∧
      (∀ (M : zM) (v51_2 : Int32) (v51_3 : Int32) (u51_4 : Int32) (v51_5 : Int32) (v51_6 : Int32), zJ N [(p0 + 19, p0 + 21, 1000), (381, 382, 1), (382, 383, 1000)] M0 M → ((-2147483648 : Int) ≤ v51_2.toInt) → (v51_2.toInt ≤ 2147483647) → ((0 : Int) ≤ v51_3.toInt) → (v51_3.toInt ≤ 11) → ((-2147483648 : Int) ≤ v51_5.toInt) → (v51_5.toInt ≤ 2147483647) → ((0 : Int) ≤ v51_6.toInt) → (v51_6.toInt ≤ 6) → 36 * (12 - v51_3.toInt) + 4 * (6 - v51_6.toInt) + 1 < (n : Int) → ZW X (d + 5) 4 false (some .int) cX4_badness (zRI N [(p0 + 19, p0 + 21, 1000), (381, 382, 1), (382, 383, 1000)] M0 (-2147483648) (2147483647) (fun _ _ => True)) (51, [some (.ref 364), some (.ref p0), some (.int v51_2), some (.int v51_3), some (.int u51_4), some (.int v51_5), some (.int v51_6)], [], M)) := by
    intro n
    induction n with
    | zero =>
      exact ⟨(fun M v4_2 v4_3 o4_4 o4_5 o4_6 hJ v4_20 v4_21 v4_30 v4_31 hn => absurd hn (by omega)), (fun M v51_2 v51_3 u51_4 v51_5 v51_6 hJ v51_20 v51_21 v51_30 v51_31 v51_50 v51_51 v51_60 v51_61 hn => absurd hn (by omega))⟩
    | succ n ih =>
      obtain ⟨ih4, ih51⟩ := ih
      refine ⟨?_, ?_⟩
      · intro M v4_2 v4_3 o4_4 o4_5 o4_6 hJ v4_20 v4_21 v4_30 v4_31 hn
        refine w_lo dX4_badness_4 rfl rfl rfl rfl ?_
        refine w_lo dX4_badness_5 rfl rfl rfl rfl ?_
        refine w_gf dX4_badness_6 rfl hJ.1.1 zs_364 (zr_364_10 hJ.1) ?_
        refine w_gfi dX4_badness_9 rfl hJ.1 zs_367 (Nat.le_of_ble_eq_true rfl) zo_367_0 ?_
        intro x1 f2 h3 h4
        rcases zcut v4_3.toInt x1.toInt with h5 | h5
        · skip
          refine w_cge_f dX4_badness_12 (t := 121) rfl (by omega) ?_
          refine w_lo dX4_badness_15 rfl rfl rfl rfl ?_
          refine w_gf dX4_badness_16 rfl hJ.1.1 zs_364 (zr_364_10 hJ.1) ?_
          refine w_gf dX4_badness_19 rfl hJ.1.1 zs_367 (zr_367_2 hJ.1) ?_
          refine w_lo dX4_badness_22 rfl rfl rfl rfl ?_
          refine w_iai dX4_badness_23 hJ.1 zs_368 (by omega) (by omega) zu_368 ?_
          intro x9 f6 h7 h8
          refine w_lo (ml' := [some (.ref 364), some (.ref p0), some (.int v4_2), some (.int v4_3), some (.int x9), o4_5, o4_6]) dX4_badness_24 rfl rfl rfl rfl ?_
          refine w_lo dX4_badness_26 rfl rfl rfl rfl ?_
          refine w_lo dX4_badness_27 rfl rfl rfl rfl ?_
          refine w_iv dX4_badness_29 rfl rfl (As := [.int x9]) rfl rfl hJ.1.1 (zs_1_0 hp0) (Nat.le_of_ble_eq_true rfl) ?_
          refine ZV.imp (k_260 p0 hp0 x9 (by omega) (by omega) hN hJ.1) ?_
          rintro _ ⟨x13, M10, rfl, h14, h15, hJ11, hq12⟩
          have hJ16 := zJ_trans hJ hJ11 zSub_nil
          show ZW _ _ _ _ _ _ _ (32, [some (.ref 364), some (.ref p0), some (.int v4_2), some (.int v4_3), some (.int x9), o4_5, o4_6], [.int x13], M10)
          rcases Int.decEq x13.toInt (0 : Int) with h17 | h17
          · skip
            refine w_ieq_f dX4_badness_32 (t := 39) rfl (by omega) ?_
            refine w_ic dX4_badness_35 zi_0 ?_
            refine w_gt dX4_badness_36 (t := 46) rfl ?_
            refine w_lo (ml' := [some (.ref 364), some (.ref p0), some (.int v4_2), some (.int v4_3), some (.int x9), some (.int 0), o4_6]) dX4_badness_46 rfl rfl rfl rfl ?_
            refine w_ic dX4_badness_48 zi_0 ?_
            refine w_lo (ml' := [some (.ref 364), some (.ref p0), some (.int v4_2), some (.int v4_3), some (.int x9), some (.int 0), some (.int 0)]) dX4_badness_49 rfl rfl rfl rfl ?_
            exact ih51 M10 v4_2 v4_3 x9 0 0 hJ16 (zbot _) (ztop _) (by omega) (by omega) (zbot _) (ztop _) (by have := zt_0; omega) (by have := zt_0; omega) (by have := zt_0; omega)
          · skip
            refine w_ieq_t dX4_badness_32 (t := 39) rfl (by omega) ?_
            refine w_lo dX4_badness_39 rfl rfl rfl rfl ?_
            refine w_gf dX4_badness_40 rfl hJ16.1.1 (zs_1_0 hp0) (zr_1_0_6 hp0 hJ16.1) ?_
            refine w_lo dX4_badness_43 rfl rfl rfl rfl ?_
            refine w_iai dX4_badness_45 hJ16.1 (zs_1_4 hp0) (by omega) (by omega) (zu_1_4 hp0) ?_
            intro x21 f18 h19 h20
            refine w_lo (ml' := [some (.ref 364), some (.ref p0), some (.int v4_2), some (.int v4_3), some (.int x9), some (.int x21), o4_6]) dX4_badness_46 rfl rfl rfl rfl ?_
            refine w_ic dX4_badness_48 zi_0 ?_
            refine w_lo (ml' := [some (.ref 364), some (.ref p0), some (.int v4_2), some (.int v4_3), some (.int x9), some (.int x21), some (.int 0)]) dX4_badness_49 rfl rfl rfl rfl ?_
            exact ih51 M10 v4_2 v4_3 x9 x21 0 hJ16 (zbot _) (ztop _) (by omega) (by omega) (zbot _) (ztop _) (by have := zt_0; omega) (by have := zt_0; omega) (by have := zt_0; omega)
        · skip
          refine w_cge_t dX4_badness_12 (t := 121) rfl (by omega) ?_
          refine w_lo dX4_badness_121 rfl rfl rfl rfl ?_
          refine w_eni dX4_badness_122 rfl rfl ?_
          exact ⟨_, _, rfl, (zbot _), (ztop _), hJ, trivial⟩
      · intro M v51_2 v51_3 u51_4 v51_5 v51_6 hJ v51_20 v51_21 v51_30 v51_31 v51_50 v51_51 v51_60 v51_61 hn
        refine w_lo dX4_badness_51 rfl rfl rfl rfl ?_
        rcases zcut (0 : Int) v51_5.toInt with h22 | h22
        · skip
          refine w_ile_f dX4_badness_53 (t := 115) rfl (by omega) ?_
          refine w_lo dX4_badness_56 rfl rfl rfl rfl ?_
          refine w_lo dX4_badness_58 rfl rfl rfl rfl ?_
          refine w_gfi dX4_badness_59 rfl hJ.1 (zs_1_0 hp0) (Nat.le_of_ble_eq_true rfl) (zo_1_0_2 hp0) ?_
          intro x23 f24 h25 h26
          rcases zcut v51_6.toInt x23.toInt with h27 | h27
          · skip
            refine w_cge_f dX4_badness_62 (t := 115) rfl (by omega) ?_
            refine w_lo dX4_badness_65 rfl rfl rfl rfl ?_
            refine w_gf dX4_badness_66 rfl hJ.1.1 zs_364 (zr_364_11 hJ.1) ?_
            refine w_lo dX4_badness_69 rfl rfl rfl rfl ?_
            refine w_lo dX4_badness_70 rfl rfl rfl rfl ?_
            refine w_gf dX4_badness_71 rfl hJ.1.1 zs_364 (zr_364_10 hJ.1) ?_
            refine w_lo dX4_badness_74 rfl rfl rfl rfl ?_
            refine w_lo dX4_badness_75 rfl rfl rfl rfl ?_
            refine w_gf dX4_badness_76 rfl hJ.1.1 (zs_1_0 hp0) (zr_1_0_10 hp0 hJ.1) ?_
            refine w_lo dX4_badness_79 rfl rfl rfl rfl ?_
            refine w_iai dX4_badness_81 hJ.1 (zs_1_8 hp0) (by omega) (by omega) (zu_1_8 hp0) ?_
            intro x31 f28 h29 h30
            refine w_iv dX4_badness_82 rfl rfl (As := [.ref p0, .ref 367, .int v51_3, .int x31]) rfl rfl hJ.1.1 zs_381 (Nat.le_of_ble_eq_true rfl) ?_
            refine ZV.imp (k_1794 381 hb_7_381 p0 hp0 367 hb_6_367 v51_3 (by omega) (by omega) x31 hN hJ.1) ?_
            rintro _ ⟨M32, rfl, hJ33, hq34⟩
            have hJ35 := zJ_trans hJ hJ33 (zSub_cons (fun _ _ h h' hk => zIR_a (by omega) (by omega)) (zSub_cons (fun _ _ h h' hk => zIR_s (zIR_e (by omega) (by omega) hk)) (zSub_cons (fun _ _ h h' hk => zIR_s (zIR_s (zIR_a (by omega) (by omega)))) zSub_nil)))
            show ZW _ _ _ _ _ _ _ (85, [some (.ref 364), some (.ref p0), some (.int v51_2), some (.int v51_3), some (.int u51_4), some (.int v51_5), some (.int v51_6)], [], M32)
            refine w_lo dX4_badness_85 rfl rfl rfl rfl ?_
            refine w_lo dX4_badness_86 rfl rfl rfl rfl ?_
            refine w_lo dX4_badness_88 rfl rfl rfl rfl ?_
            refine w_gf dX4_badness_89 rfl hJ35.1.1 (zs_1_0 hp0) (zr_1_0_13 hp0 hJ35.1) ?_
            refine w_lo dX4_badness_92 rfl rfl rfl rfl ?_
            refine w_iai dX4_badness_94 hJ35.1 (zs_1_11 hp0) (by omega) (by omega) (zu_1_11 hp0) ?_
            intro x39 f36 h37 h38
            refine w_puI dX4_badness_95 rfl rfl ?_
            intro x40
            refine w_lo dX4_badness_96 rfl rfl rfl rfl ?_
            refine w_gf dX4_badness_97 rfl hJ35.1.1 zs_364 (zr_364_11 hJ35.1) ?_
            refine w_gfi dX4_badness_100 rfl hJ35.1 zs_381 (Nat.le_of_ble_eq_true rfl) zo_381_1 ?_
            intro x41 f42 h43 h44
            refine w_ss dX4_badness_103 rfl rfl (As := [.int x41]) rfl rfl (Nat.le_of_ble_eq_true rfl) ?_
            refine ZV.imp (k_2816 x41 (by omega) (by omega) hN hJ35.1) ?_
            rintro _ ⟨x48, M45, rfl, h49, h50, hJ46, hq47⟩
            have hJ51 := zJ_trans hJ35 hJ46 zSub_nil
            show ZW _ _ _ _ _ _ _ (106, [some (.ref 364), some (.ref p0), some (.int v51_2), some (.int v51_3), some (.int u51_4), some (.int v51_5), some (.int v51_6)], [.int x48, .int x40, .int v51_2], M45)
            refine w_puI dX4_badness_106 rfl rfl ?_
            intro x52
            refine w_puI dX4_badness_107 rfl rfl ?_
            intro x53
            refine w_lo (ml' := [some (.ref 364), some (.ref p0), some (.int x53), some (.int v51_3), some (.int u51_4), some (.int v51_5), some (.int v51_6)]) dX4_badness_108 rfl rfl rfl rfl ?_
            refine w_inc (kk := 6) dX4_badness_109 rfl (m := 1) (by decide) (by omega) ?_
            intro x54 h55
            refine ⟨_, rfl, ?_⟩
            show ZW _ _ _ _ _ _ _ (112, [some (.ref 364), some (.ref p0), some (.int x53), some (.int v51_3), some (.int u51_4), some (.int v51_5), some (.int x54)], [], M45)
            refine w_gt dX4_badness_112 (t := 51) rfl ?_
            exact ih51 M45 x53 v51_3 u51_4 v51_5 x54 hJ51 (zbot _) (ztop _) (by omega) (by omega) (zbot _) (ztop _) (by omega) (by omega) (by omega)
          · skip
            refine w_cge_t dX4_badness_62 (t := 115) rfl (by omega) ?_
            refine w_inc (kk := 3) dX4_badness_115 rfl (m := 1) (by decide) (by omega) ?_
            intro x56 h57
            refine ⟨_, rfl, ?_⟩
            show ZW _ _ _ _ _ _ _ (118, [some (.ref 364), some (.ref p0), some (.int v51_2), some (.int x56), some (.int u51_4), some (.int v51_5), some (.int v51_6)], [], M)
            refine w_gt dX4_badness_118 (t := 4) rfl ?_
            exact ih4 M v51_2 x56 (some (.int u51_4)) (some (.int v51_5)) (some (.int v51_6)) hJ (zbot _) (ztop _) (by omega) (by omega) (by omega)
        · skip
          refine w_ile_t dX4_badness_53 (t := 115) rfl (by omega) ?_
          refine w_inc (kk := 3) dX4_badness_115 rfl (m := 1) (by decide) (by omega) ?_
          intro x58 h59
          refine ⟨_, rfl, ?_⟩
          show ZW _ _ _ _ _ _ _ (118, [some (.ref 364), some (.ref p0), some (.int v51_2), some (.int x58), some (.int u51_4), some (.int v51_5), some (.int v51_6)], [], M)
          refine w_gt dX4_badness_118 (t := 4) rfl ?_
          exact ih4 M v51_2 x58 (some (.int u51_4)) (some (.int v51_5)) (some (.int v51_6)) hJ (zbot _) (ztop _) (by omega) (by omega) (by omega)
  obtain ⟨ih4, ih51⟩ := main 543
  show ZW _ _ _ _ _ _ _ (0, [some (.ref 364), some (.ref p0), none, none, none, none, none], [], M0)
  refine w_ic dX4_badness_0 zi_0 ?_
  refine w_lo (ml' := [some (.ref 364), some (.ref p0), some (.int 0), none, none, none, none]) dX4_badness_1 rfl rfl rfl rfl ?_
  refine w_ic dX4_badness_2 zi_0 ?_
  refine w_lo (ml' := [some (.ref 364), some (.ref p0), some (.int 0), some (.int 0), none, none, none]) dX4_badness_3 rfl rfl rfl rfl ?_
  exact ih4 M0 0 0 none none none hJ0 (zbot _) (ztop _) (by have := zt_0; omega) (by have := zt_0; omega) (by have := zt_0; omega)
set_option maxRecDepth 100000 in
theorem k_1025 {X : List Int32} {d N : Nat} {M0 : zM} (p0 : Nat) (hp0 : zDm p0) (p1 : Nat) (hp1 : zRp p1) (hN : N ≤ 600) (hB0 : zB N M0) : ZV X (d + 7) 1025 [.ref 364, .ref p0, .ref p1] M0 (zRI N [(p0 + 19, p0 + 21, 1000), (367, 368, 0), (367, 368, 1), (381, 382, 1), (368, 380, 1000), (382, 383, 1000), (367, 368, 14)] M0 (-2147483648) (2147483647) (fun _ _ => True)) := by
  have hbp0 := zDm_b hp0
  have hbp1 := zRp_b hp1
  have hJ0 : zJ N [(p0 + 19, p0 + 21, 1000), (367, 368, 0), (367, 368, 1), (381, 382, 1), (368, 380, 1000), (382, 383, 1000), (367, 368, 14)] M0 M0 := zJ_refl hB0
  refine ZV.of (ini := false) rfl (Nat.le_of_ble_eq_true rfl) (by decide +kernel) ?_
  show ZW _ _ _ _ _ _ _ (0, [some (.ref 364), some (.ref p0), some (.ref p1)], [], M0)
  refine w_lo dX4_badAsItIs_0 rfl rfl rfl rfl ?_
  refine w_lo dX4_badAsItIs_1 rfl rfl rfl rfl ?_
  refine w_lo dX4_badAsItIs_2 rfl rfl rfl rfl ?_
  refine w_iv dX4_badAsItIs_3 rfl rfl (As := [.ref p0, .ref p1]) rfl rfl hJ0.1.1 zs_364 (Nat.le_of_ble_eq_true rfl) ?_
  refine ZV.imp (k_1026 p0 hp0 p1 hp1 hN hJ0.1) ?_
  rintro _ ⟨M1, rfl, hJ2, hq3⟩
  have hJ4 := zJ_trans hJ0 hJ2 (zSub_cons (fun _ _ h h' hk => zIR_s (zIR_e (by omega) (by omega) hk)) (zSub_cons (fun _ _ h h' hk => zIR_s (zIR_s (zIR_e (by omega) (by omega) hk))) (zSub_cons (fun _ _ h h' hk => zIR_s (zIR_s (zIR_s (zIR_s (zIR_a (by omega) (by omega)))))) (zSub_cons (fun _ _ h h' hk => zIR_s (zIR_s (zIR_s (zIR_s (zIR_s (zIR_s (zIR_e (by omega) (by omega) hk))))))) zSub_nil))))
  show ZW _ _ _ _ _ _ _ (6, [some (.ref 364), some (.ref p0), some (.ref p1)], [], M1)
  refine w_lo dX4_badAsItIs_6 rfl rfl rfl rfl ?_
  refine w_gf dX4_badAsItIs_7 rfl hJ4.1.1 (zs_6_0 hp1) (zr_6_0_2 hp1 hJ4.1) ?_
  refine w_ic dX4_badAsItIs_10 zi_0 ?_
  refine w_lo dX4_badAsItIs_11 rfl rfl rfl rfl ?_
  refine w_gf dX4_badAsItIs_12 rfl hJ4.1.1 zs_364 (zr_364_10 hJ4.1) ?_
  refine w_gf dX4_badAsItIs_15 rfl hJ4.1.1 zs_367 (zr_367_2 hJ4.1) ?_
  refine w_ic dX4_badAsItIs_18 zi_0 ?_
  refine w_bi dX4_badAsItIs_19 (c := 12) (by decide) ?_
  refine w_cpG (kd := 10) (Or.inl rfl) dX4_badAsItIs_21 rfl (Nat.le_of_ble_eq_true rfl) hJ4 (zs_6_1 hp1) zs_368 zt_12 (Nat.le_of_ble_eq_true rfl) (Nat.le_of_ble_eq_true rfl) (zu_6_1 hp1) zu_368 (by decide) (by decide) (fun _ => (zIR_s (zIR_s (zIR_s (zIR_s (zIR_a (by omega) (by omega))))))) ?_
  intro M5 hJ6 hn7
  show ZW _ _ _ _ _ _ _ (24, [some (.ref 364), some (.ref p0), some (.ref p1)], [], M5)
  refine w_lo dX4_badAsItIs_24 rfl rfl rfl rfl ?_
  refine w_lo dX4_badAsItIs_25 rfl rfl rfl rfl ?_
  refine w_iv dX4_badAsItIs_26 rfl rfl (As := [.ref p0]) rfl rfl hJ6.1.1 zs_364 (Nat.le_of_ble_eq_true rfl) ?_
  refine ZV.imp (k_1027 p0 hp0 hN hJ6.1) ?_
  rintro _ ⟨x11, M8, rfl, h12, h13, hJ9, hq10⟩
  have hJ14 := zJ_trans hJ6 hJ9 (zSub_cons (fun _ _ h h' hk => zIR_a (by omega) (by omega)) (zSub_cons (fun _ _ h h' hk => zIR_s (zIR_s (zIR_s (zIR_e (by omega) (by omega) hk)))) (zSub_cons (fun _ _ h h' hk => zIR_s (zIR_s (zIR_s (zIR_s (zIR_s (zIR_a (by omega) (by omega))))))) zSub_nil)))
  show ZW _ _ _ _ _ _ _ (29, [some (.ref 364), some (.ref p0), some (.ref p1)], [.int x11], M8)
  refine w_eni dX4_badAsItIs_29 rfl rfl ?_
  exact ⟨_, _, rfl, (zbot _), (ztop _), hJ14, trivial⟩
set_option maxRecDepth 100000 in
theorem k_1029 {X : List Int32} {d N : Nat} {M0 : zM} (a1 : Int32) (ha10 : (0 : Int) ≤ a1.toInt) (ha11 : a1.toInt ≤ 12) (hN : N ≤ 600) (hB0 : zB N M0) : ZV X (d + 1) 1029 [.ref 368, .int a1] M0 (zRI N [(368, 369, 1000)] M0 (0) (1) (fun _ _ => True)) := by
  have hJ0 : zJ N [(368, 369, 1000)] M0 M0 := zJ_refl hB0
  refine ZV.of (ini := false) rfl (Nat.le_of_ble_eq_true rfl) (by decide +kernel) ?_
  have main : ∀ n : Nat,
      (∀ (M : zM) (v4_1 : Int32) (v4_2 : Int32) (o4_3 : Option Value) (o4_4 : Option Value) (o4_5 : Option Value) (o4_6 : Option Value), zJ N [(368, 369, 1000)] M0 M → ((0 : Int) ≤ v4_1.toInt) → (v4_1.toInt ≤ 12) → ((-2 : Int) ≤ v4_2.toInt) → (v4_2.toInt ≤ 10) → (v4_2.toInt ≤ v4_1.toInt - 2) → 6 * (v4_2.toInt - (-2)) + 160 < (n : Int) → ZW X (d + 0) 4 false (some .boolean) cX4_nextOrder (zRI N [(368, 369, 1000)] M0 (0) (1) (fun _ _ => True)) (4, [some (.ref 368), some (.int v4_1), some (.int v4_2), o4_3, o4_4, o4_5, o4_6], [], M)) ∧
      (∀ (M : zM) (v35_1 : Int32) (v35_2 : Int32) (v35_3 : Int32) (o35_4 : Option Value) (o35_5 : Option Value) (o35_6 : Option Value), zJ N [(368, 369, 1000)] M0 M → ((0 : Int) ≤ v35_1.toInt) → (v35_1.toInt ≤ 12) → ((0 : Int) ≤ v35_2.toInt) → (v35_2.toInt ≤ 10) → ((-1 : Int) ≤ v35_3.toInt) → (v35_3.toInt ≤ 11) → (v35_2.toInt ≤ v35_3.toInt) → 6 * (v35_3.toInt - (-1)) + 75 < (n : Int) → ZW X (d + 0) 4 false (some .boolean) cX4_nextOrder (zRI N [(368, 369, 1000)] M0 (0) (1) (fun _ _ => True)) (35, [some (.ref 368), some (.int v35_1), some (.int v35_2), some (.int v35_3), o35_4, o35_5, o35_6], [], M)) ∧
      (∀ (M : zM) (v55_1 : Int32) (v55_2 : Int32) (v55_3 : Int32) (o55_4 : Option Value) (o55_5 : Option Value) (o55_6 : Option Value), zJ N [(368, 369, 1000)] M0 M → ((0 : Int) ≤ v55_1.toInt) → (v55_1.toInt ≤ 12) → ((0 : Int) ≤ v55_2.toInt) → (v55_2.toInt ≤ 10) → ((-1 : Int) ≤ v55_3.toInt) → (v55_3.toInt ≤ 11) → (v55_2.toInt ≤ v55_3.toInt) → 74 < (n : Int) → ZW X (d + 0) 4 false (some .boolean) cX4_nextOrder (zRI N [(368, 369, 1000)] M0 (0) (1) (fun _ _ => True)) (55, [some (.ref 368), some (.int v55_1), some (.int v55_2), some (.int v55_3), o55_4, o55_5, o55_6], [], M)) ∧
      (∀ (M : zM) (u81_1 : Int32) (u81_2 : Int32) (u81_3 : Int32) (u81_4 : Int32) (v81_5 : Int32) (v81_6 : Int32), zJ N [(368, 369, 1000)] M0 M → ((1 : Int) ≤ v81_5.toInt) → (v81_5.toInt ≤ 11) → ((-1 : Int) ≤ v81_6.toInt) → (v81_6.toInt ≤ 11) → 6 * (11 - v81_5.toInt) + 1 < (n : Int) → ZW X (d + 0) 4 false (some .boolean) cX4_nextOrder (zRI N [(368, 369, 1000)] M0 (0) (1) (fun _ _ => True)) (81, [some (.ref 368), some (.int u81_1), some (.int u81_2), some (.int u81_3), some (.int u81_4), some (.int v81_5), some (.int v81_6)], [], M)) := by
    intro n
    induction n with
    | zero =>
      exact ⟨(fun M v4_1 v4_2 o4_3 o4_4 o4_5 o4_6 hJ v4_10 v4_11 v4_20 v4_21 ann0 hn => absurd hn (by omega)), (fun M v35_1 v35_2 v35_3 o35_4 o35_5 o35_6 hJ v35_10 v35_11 v35_20 v35_21 v35_30 v35_31 ann0 hn => absurd hn (by omega)), (fun M v55_1 v55_2 v55_3 o55_4 o55_5 o55_6 hJ v55_10 v55_11 v55_20 v55_21 v55_30 v55_31 ann0 hn => absurd hn (by omega)), (fun M u81_1 u81_2 u81_3 u81_4 v81_5 v81_6 hJ v81_50 v81_51 v81_60 v81_61 hn => absurd hn (by omega))⟩
    | succ n ih =>
      obtain ⟨ih4, ih35, ih55, ih81⟩ := ih
      refine ⟨?_, ?_, ?_, ?_⟩
      · intro M v4_1 v4_2 o4_3 o4_4 o4_5 o4_6 hJ v4_10 v4_11 v4_20 v4_21 ann0 hn
        refine w_lo dX4_nextOrder_4 rfl rfl rfl rfl ?_
        rcases zcut v4_2.toInt (0 : Int) with h1 | h1
        · skip
          refine w_ilt_t dX4_nextOrder_5 (t := 25) rfl (by omega) ?_
          refine w_lo dX4_nextOrder_25 rfl rfl rfl rfl ?_
          refine w_ige_f dX4_nextOrder_26 (t := 31) rfl (by omega) ?_
          refine w_ic dX4_nextOrder_29 zi_0 ?_
          refine w_en dX4_nextOrder_30 rfl ?_
          exact ⟨_, _, rfl, (by have := zt_0; omega), (by have := zt_0; omega), hJ, trivial⟩
        · skip
          refine w_ilt_f dX4_nextOrder_5 (t := 25) rfl (by omega) ?_
          refine w_lo dX4_nextOrder_8 rfl rfl rfl rfl ?_
          refine w_lo dX4_nextOrder_9 rfl rfl rfl rfl ?_
          refine w_iai dX4_nextOrder_10 hJ.1 zs_368 (by omega) (by omega) zu_368 ?_
          intro x5 f2 h3 h4
          refine w_lo dX4_nextOrder_11 rfl rfl rfl rfl ?_
          refine w_lo dX4_nextOrder_12 rfl rfl rfl rfl ?_
          refine w_ic dX4_nextOrder_13 zi_1 ?_
          refine w_add dX4_nextOrder_14 (by have := zt_1; omega) ?_
          intro x6 h7
          have := zt_1
          refine w_iai dX4_nextOrder_15 hJ.1 zs_368 (by omega) (by omega) zu_368 ?_
          intro x11 f8 h9 h10
          rcases zcut x11.toInt x5.toInt with h12 | h12
          · skip
            refine w_cle_f dX4_nextOrder_16 (t := 25) rfl (by omega) ?_
            refine w_inc (kk := 2) dX4_nextOrder_19 rfl (m := -1) (by decide) (by omega) ?_
            intro x13 h14
            refine ⟨_, rfl, ?_⟩
            show ZW _ _ _ _ _ _ _ (22, [some (.ref 368), some (.int v4_1), some (.int x13), o4_3, o4_4, o4_5, o4_6], [], M)
            refine w_gt dX4_nextOrder_22 (t := 4) rfl ?_
            exact ih4 M v4_1 x13 o4_3 o4_4 o4_5 o4_6 hJ (by omega) (by omega) (by omega) (by omega) (by omega) (by omega)
          · skip
            refine w_cle_t dX4_nextOrder_16 (t := 25) rfl (by omega) ?_
            refine w_lo dX4_nextOrder_25 rfl rfl rfl rfl ?_
            refine w_ige_t dX4_nextOrder_26 (t := 31) rfl (by omega) ?_
            refine w_lo dX4_nextOrder_31 rfl rfl rfl rfl ?_
            refine w_ic dX4_nextOrder_32 zi_1 ?_
            refine w_sub dX4_nextOrder_33 (by have := zt_1; omega) ?_
            intro x15 h16
            have := zt_1
            refine w_lo (ml' := [some (.ref 368), some (.int v4_1), some (.int v4_2), some (.int x15), o4_4, o4_5, o4_6]) dX4_nextOrder_34 rfl rfl rfl rfl ?_
            exact ih35 M v4_1 v4_2 x15 o4_4 o4_5 o4_6 hJ (by omega) (by omega) (by omega) (by omega) (by omega) (by omega) (by omega) (by omega)
      · intro M v35_1 v35_2 v35_3 o35_4 o35_5 o35_6 hJ v35_10 v35_11 v35_20 v35_21 v35_30 v35_31 ann0 hn
        refine w_lo dX4_nextOrder_35 rfl rfl rfl rfl ?_
        refine w_lo dX4_nextOrder_36 rfl rfl rfl rfl ?_
        rcases zcut v35_2.toInt v35_3.toInt with h17 | h17
        · skip
          refine w_cle_f dX4_nextOrder_37 (t := 55) rfl (by omega) ?_
          refine w_lo dX4_nextOrder_40 rfl rfl rfl rfl ?_
          refine w_lo dX4_nextOrder_41 rfl rfl rfl rfl ?_
          refine w_iai dX4_nextOrder_42 hJ.1 zs_368 (by omega) (by omega) zu_368 ?_
          intro x21 f18 h19 h20
          refine w_lo dX4_nextOrder_43 rfl rfl rfl rfl ?_
          refine w_lo dX4_nextOrder_44 rfl rfl rfl rfl ?_
          refine w_iai dX4_nextOrder_45 hJ.1 zs_368 (by omega) (by omega) zu_368 ?_
          intro x25 f22 h23 h24
          rcases zcut x21.toInt x25.toInt with h26 | h26
          · skip
            refine w_cge_f dX4_nextOrder_46 (t := 55) rfl (by omega) ?_
            refine w_inc (kk := 3) dX4_nextOrder_49 rfl (m := -1) (by decide) (by omega) ?_
            intro x27 h28
            refine ⟨_, rfl, ?_⟩
            show ZW _ _ _ _ _ _ _ (52, [some (.ref 368), some (.int v35_1), some (.int v35_2), some (.int x27), o35_4, o35_5, o35_6], [], M)
            refine w_gt dX4_nextOrder_52 (t := 35) rfl ?_
            exact ih35 M v35_1 v35_2 x27 o35_4 o35_5 o35_6 hJ (by omega) (by omega) (by omega) (by omega) (by omega) (by omega) (by omega) (by omega)
          · skip
            refine w_cge_t dX4_nextOrder_46 (t := 55) rfl (by omega) ?_
            exact ih55 M v35_1 v35_2 v35_3 o35_4 o35_5 o35_6 hJ (by omega) (by omega) (by omega) (by omega) (by omega) (by omega) (by omega) (by omega)
        · skip
          refine w_cle_t dX4_nextOrder_37 (t := 55) rfl (by omega) ?_
          exact ih55 M v35_1 v35_2 v35_3 o35_4 o35_5 o35_6 hJ (by omega) (by omega) (by omega) (by omega) (by omega) (by omega) (by omega) (by omega)
      · intro M v55_1 v55_2 v55_3 o55_4 o55_5 o55_6 hJ v55_10 v55_11 v55_20 v55_21 v55_30 v55_31 ann0 hn
        refine w_lo dX4_nextOrder_55 rfl rfl rfl rfl ?_
        refine w_lo dX4_nextOrder_56 rfl rfl rfl rfl ?_
        refine w_iai dX4_nextOrder_57 hJ.1 zs_368 (by omega) (by omega) zu_368 ?_
        intro x32 f29 h30 h31
        refine w_lo (ml' := [some (.ref 368), some (.int v55_1), some (.int v55_2), some (.int v55_3), some (.int x32), o55_5, o55_6]) dX4_nextOrder_58 rfl rfl rfl rfl ?_
        refine w_lo dX4_nextOrder_60 rfl rfl rfl rfl ?_
        refine w_lo dX4_nextOrder_61 rfl rfl rfl rfl ?_
        refine w_lo dX4_nextOrder_62 rfl rfl rfl rfl ?_
        refine w_lo dX4_nextOrder_63 rfl rfl rfl rfl ?_
        refine w_iai dX4_nextOrder_64 hJ.1 zs_368 (by omega) (by omega) zu_368 ?_
        intro x36 f33 h34 h35
        refine w_isi dX4_nextOrder_65 hJ zs_368 (by omega) (by omega) zu_368 (by omega) (by omega) (zIR_a (by omega) (by omega)) ?_
        intro M37 hJ38 f39 hn40
        refine w_lo dX4_nextOrder_66 rfl rfl rfl rfl ?_
        refine w_lo dX4_nextOrder_67 rfl rfl rfl rfl ?_
        refine w_lo dX4_nextOrder_68 rfl rfl rfl rfl ?_
        refine w_isi dX4_nextOrder_70 hJ38 zs_368 (by omega) (by omega) zu_368 (by omega) (by omega) (zIR_a (by omega) (by omega)) ?_
        intro M41 hJ42 f43 hn44
        refine w_lo dX4_nextOrder_71 rfl rfl rfl rfl ?_
        refine w_ic dX4_nextOrder_72 zi_1 ?_
        refine w_add dX4_nextOrder_73 (by have := zt_1; omega) ?_
        intro x45 h46
        have := zt_1
        refine w_lo (ml' := [some (.ref 368), some (.int v55_1), some (.int v55_2), some (.int v55_3), some (.int x32), some (.int x45), o55_6]) dX4_nextOrder_74 rfl rfl rfl rfl ?_
        refine w_lo dX4_nextOrder_76 rfl rfl rfl rfl ?_
        refine w_ic dX4_nextOrder_77 zi_1 ?_
        refine w_sub dX4_nextOrder_78 (by have := zt_1; omega) ?_
        intro x47 h48
        have := zt_1
        refine w_lo (ml' := [some (.ref 368), some (.int v55_1), some (.int v55_2), some (.int v55_3), some (.int x32), some (.int x45), some (.int x47)]) dX4_nextOrder_79 rfl rfl rfl rfl ?_
        exact ih81 M41 v55_1 v55_2 v55_3 x32 x45 x47 hJ42 (by omega) (by omega) (by omega) (by omega) (by omega)
      · intro M u81_1 u81_2 u81_3 u81_4 v81_5 v81_6 hJ v81_50 v81_51 v81_60 v81_61 hn
        refine w_lo dX4_nextOrder_81 rfl rfl rfl rfl ?_
        refine w_lo dX4_nextOrder_83 rfl rfl rfl rfl ?_
        rcases zcut v81_5.toInt v81_6.toInt with h49 | h49
        · skip
          refine w_cge_f dX4_nextOrder_85 (t := 117) rfl (by omega) ?_
          refine w_lo dX4_nextOrder_88 rfl rfl rfl rfl ?_
          refine w_lo dX4_nextOrder_89 rfl rfl rfl rfl ?_
          refine w_iai dX4_nextOrder_91 hJ.1 zs_368 (by omega) (by omega) zu_368 ?_
          intro x53 f50 h51 h52
          refine w_lo (ml' := [some (.ref 368), some (.int u81_1), some (.int u81_2), some (.int u81_3), some (.int x53), some (.int v81_5), some (.int v81_6)]) dX4_nextOrder_92 rfl rfl rfl rfl ?_
          refine w_lo dX4_nextOrder_94 rfl rfl rfl rfl ?_
          refine w_lo dX4_nextOrder_95 rfl rfl rfl rfl ?_
          refine w_lo dX4_nextOrder_97 rfl rfl rfl rfl ?_
          refine w_lo dX4_nextOrder_98 rfl rfl rfl rfl ?_
          refine w_iai dX4_nextOrder_100 hJ.1 zs_368 (by omega) (by omega) zu_368 ?_
          intro x57 f54 h55 h56
          refine w_isi dX4_nextOrder_101 hJ zs_368 (by omega) (by omega) zu_368 (by omega) (by omega) (zIR_a (by omega) (by omega)) ?_
          intro M58 hJ59 f60 hn61
          refine w_lo dX4_nextOrder_102 rfl rfl rfl rfl ?_
          refine w_lo dX4_nextOrder_103 rfl rfl rfl rfl ?_
          refine w_lo dX4_nextOrder_105 rfl rfl rfl rfl ?_
          refine w_isi dX4_nextOrder_107 hJ59 zs_368 (by omega) (by omega) zu_368 (by omega) (by omega) (zIR_a (by omega) (by omega)) ?_
          intro M62 hJ63 f64 hn65
          refine w_inc (kk := 5) dX4_nextOrder_108 rfl (m := 1) (by decide) (by omega) ?_
          intro x66 h67
          refine ⟨_, rfl, ?_⟩
          show ZW _ _ _ _ _ _ _ (111, [some (.ref 368), some (.int u81_1), some (.int u81_2), some (.int u81_3), some (.int x53), some (.int x66), some (.int v81_6)], [], M62)
          refine w_inc (kk := 6) dX4_nextOrder_111 rfl (m := -1) (by decide) (by omega) ?_
          intro x68 h69
          refine ⟨_, rfl, ?_⟩
          show ZW _ _ _ _ _ _ _ (114, [some (.ref 368), some (.int u81_1), some (.int u81_2), some (.int u81_3), some (.int x53), some (.int x66), some (.int x68)], [], M62)
          refine w_gt dX4_nextOrder_114 (t := 81) rfl ?_
          exact ih81 M62 u81_1 u81_2 u81_3 x53 x66 x68 hJ63 (by omega) (by omega) (by omega) (by omega) (by omega)
        · skip
          refine w_cge_t dX4_nextOrder_85 (t := 117) rfl (by omega) ?_
          refine w_ic dX4_nextOrder_117 zi_1 ?_
          refine w_en dX4_nextOrder_118 rfl ?_
          exact ⟨_, _, rfl, (by have := zt_1; omega), (by have := zt_1; omega), hJ, trivial⟩
  obtain ⟨ih4, ih35, ih55, ih81⟩ := main 249
  show ZW _ _ _ _ _ _ _ (0, [some (.ref 368), some (.int a1), none, none, none, none, none], [], M0)
  refine w_lo dX4_nextOrder_0 rfl rfl rfl rfl ?_
  refine w_ic dX4_nextOrder_1 zi_2 ?_
  refine w_sub dX4_nextOrder_2 (by have := zt_2; omega) ?_
  intro x70 h71
  have := zt_2
  refine w_lo (ml' := [some (.ref 368), some (.int a1), some (.int x70), none, none, none, none]) dX4_nextOrder_3 rfl rfl rfl rfl ?_
  exact ih4 M0 a1 x70 none none none none hJ0 (by omega) (by omega) (by omega) (by omega) (by omega) (by omega)
set_option maxRecDepth 100000 in
theorem k_1028 {X : List Int32} {d N : Nat} {M0 : zM} (p0 : Nat) (hp0 : zDm p0) (p1 : Nat) (hp1 : zRp p1) (a2 : Int32) (hN : N ≤ 600) (hB0 : zB N M0) : ZV X (d + 7) 1028 [.ref 364, .ref p0, .ref p1, .int a2] M0 (zRV N [(p0 + 19, p0 + 21, 1000), (364, 365, 0), (367, 368, 0), (367, 368, 1), (381, 382, 1), (365, 366, 1000), (368, 380, 1000), (382, 383, 1000), (367, 368, 14), (364, 365, 7)] M0 (fun _ => True)) := by
  have hbp0 := zDm_b hp0
  have hbp1 := zRp_b hp1
  have hJ0 : zJ N [(p0 + 19, p0 + 21, 1000), (364, 365, 0), (367, 368, 0), (367, 368, 1), (381, 382, 1), (365, 366, 1000), (368, 380, 1000), (382, 383, 1000), (367, 368, 14), (364, 365, 7)] M0 M0 := zJ_refl hB0
  refine ZV.of (ini := false) rfl (Nat.le_of_ble_eq_true rfl) (by decide +kernel) ?_
  have main : ∀ n : Nat,
      (∀ (M : zM) (o28_2 : Option Value) (u28_3 : Int32) (v28_4 : Int32) (o28_5 : Option Value), zJ N [(p0 + 19, p0 + 21, 1000), (364, 365, 0), (367, 368, 0), (367, 368, 1), (381, 382, 1), (365, 366, 1000), (368, 380, 1000), (382, 383, 1000), (367, 368, 14), (364, 365, 7)] M0 M → ((0 : Int) ≤ v28_4.toInt) → (v28_4.toInt ≤ 999) → 4 * (999 - v28_4.toInt) + 2 < (n : Int) → ZW X (d + 6) 4 false none cX4_findBest (zRV N [(p0 + 19, p0 + 21, 1000), (364, 365, 0), (367, 368, 0), (367, 368, 1), (381, 382, 1), (365, 366, 1000), (368, 380, 1000), (382, 383, 1000), (367, 368, 14), (364, 365, 7)] M0 (fun _ => True)) (28, [some (.ref 364), some (.ref p0), o28_2, some (.int u28_3), some (.int v28_4), o28_5], [], M)) ∧
      (∀ (M : zM) (o60_2 : Option Value) (u60_3 : Int32) (v60_4 : Int32) (v60_5 : Int32), zJ N [(p0 + 19, p0 + 21, 1000), (364, 365, 0), (367, 368, 0), (367, 368, 1), (381, 382, 1), (365, 366, 1000), (368, 380, 1000), (382, 383, 1000), (367, 368, 14), (364, 365, 7)] M0 M → ((0 : Int) ≤ v60_4.toInt) → (v60_4.toInt ≤ 998) → ((-2147483648 : Int) ≤ v60_5.toInt) → (v60_5.toInt ≤ 2147483647) → 4 * (999 - v60_4.toInt) + 1 < (n : Int) → ZW X (d + 6) 4 false none cX4_findBest (zRV N [(p0 + 19, p0 + 21, 1000), (364, 365, 0), (367, 368, 0), (367, 368, 1), (381, 382, 1), (365, 366, 1000), (368, 380, 1000), (382, 383, 1000), (367, 368, 14), (364, 365, 7)] M0 (fun _ => True)) (60, [some (.ref 364), some (.ref p0), o60_2, some (.int u60_3), some (.int v60_4), some (.int v60_5)], [], M)) := by
    intro n
    induction n with
    | zero =>
      exact ⟨(fun M o28_2 u28_3 v28_4 o28_5 hJ v28_40 v28_41 hn => absurd hn (by omega)), (fun M o60_2 u60_3 v60_4 v60_5 hJ v60_40 v60_41 v60_50 v60_51 hn => absurd hn (by omega))⟩
    | succ n ih =>
      obtain ⟨ih28, ih60⟩ := ih
      refine ⟨?_, ?_⟩
      · intro M o28_2 u28_3 v28_4 o28_5 hJ v28_40 v28_41 hn
        refine w_lo dX4_findBest_28 rfl rfl rfl rfl ?_
        refine w_si dX4_findBest_30 (c := 720) (by decide) ?_
        rcases zcut v28_4.toInt (720 : Int) with h1 | h1
        · skip
          refine w_cge_f dX4_findBest_33 (t := 113) rfl (by have := zt_720; omega) ?_
          refine w_lo dX4_findBest_36 rfl rfl rfl rfl ?_
          refine w_lo dX4_findBest_37 rfl rfl rfl rfl ?_
          refine w_iv dX4_findBest_38 rfl rfl (As := [.ref p0]) rfl rfl hJ.1.1 zs_364 (Nat.le_of_ble_eq_true rfl) ?_
          refine ZV.imp (k_1027 p0 hp0 hN hJ.1) ?_
          rintro _ ⟨x5, M2, rfl, h6, h7, hJ3, hq4⟩
          have hJ8 := zJ_trans hJ hJ3 (zSub_cons (fun _ _ h h' hk => zIR_a (by omega) (by omega)) (zSub_cons (fun _ _ h h' hk => zIR_s (zIR_s (zIR_s (zIR_s (zIR_e (by omega) (by omega) hk))))) (zSub_cons (fun _ _ h h' hk => zIR_s (zIR_s (zIR_s (zIR_s (zIR_s (zIR_s (zIR_s (zIR_a (by omega) (by omega))))))))) zSub_nil)))
          show ZW _ _ _ _ _ _ _ (41, [some (.ref 364), some (.ref p0), o28_2, some (.int u28_3), some (.int v28_4), o28_5], [.int x5], M2)
          refine w_lo (ml' := [some (.ref 364), some (.ref p0), o28_2, some (.int u28_3), some (.int v28_4), some (.int x5)]) dX4_findBest_41 rfl rfl rfl rfl ?_
          refine w_lo dX4_findBest_43 rfl rfl rfl rfl ?_
          refine w_gfi dX4_findBest_44 rfl hJ8.1 zs_364 (Nat.le_of_ble_eq_true rfl) zo_364_0 ?_
          intro x9 f10 h11 h12
          refine w_ic dX4_findBest_47 zi_m1 ?_
          rcases Int.decEq x9.toInt (-1 : Int) with h13 | h13
          · skip
            refine w_ceq_f dX4_findBest_48 (t := 60) rfl (by have := zt_m1; omega) ?_
            refine w_lo dX4_findBest_51 rfl rfl rfl rfl ?_
            refine w_lo dX4_findBest_53 rfl rfl rfl rfl ?_
            refine w_gf dX4_findBest_54 rfl hJ8.1.1 zs_364 f10 ?_
            rcases zcut x5.toInt x9.toInt with h14 | h14
            · skip
              refine w_cge_f dX4_findBest_57 (t := 84) rfl (by omega) ?_
              exact ih60 M2 o28_2 u28_3 v28_4 x5 hJ8 (by omega) (by omega) (zbot _) (ztop _) (by omega)
            · skip
              refine w_cge_t dX4_findBest_57 (t := 84) rfl (by omega) ?_
              refine w_lo dX4_findBest_84 rfl rfl rfl rfl ?_
              refine w_gf dX4_findBest_85 rfl hJ8.1.1 zs_364 (zr_364_10 hJ8.1) ?_
              refine w_gf dX4_findBest_88 rfl hJ8.1.1 zs_367 (zr_367_2 hJ8.1) ?_
              refine w_lo dX4_findBest_91 rfl rfl rfl rfl ?_
              refine w_gf dX4_findBest_92 rfl hJ8.1.1 zs_364 (zr_364_10 hJ8.1) ?_
              refine w_gfi dX4_findBest_95 rfl hJ8.1 zs_367 (Nat.le_of_ble_eq_true rfl) zo_367_0 ?_
              intro x15 f16 h17 h18
              refine w_ss dX4_findBest_98 rfl rfl (As := [.ref 368, .int x15]) rfl rfl (Nat.le_of_ble_eq_true rfl) ?_
              refine ZV.imp (k_1029 x15 (by omega) (by omega) hN hJ8.1) ?_
              rintro _ ⟨x22, M19, rfl, h23, h24, hJ20, hq21⟩
              have hJ25 := zJ_trans hJ8 hJ20 (zSub_cons (fun _ _ h h' hk => zIR_s (zIR_s (zIR_s (zIR_s (zIR_s (zIR_s (zIR_a (by omega) (by omega)))))))) zSub_nil)
              show ZW _ _ _ _ _ _ _ (101, [some (.ref 364), some (.ref p0), o28_2, some (.int u28_3), some (.int v28_4), some (.int x5)], [.int x22], M19)
              rcases Int.decEq x22.toInt (0 : Int) with h26 | h26
              · skip
                refine w_ine_t dX4_findBest_101 (t := 107) rfl (by omega) ?_
                refine w_inc (kk := 4) dX4_findBest_107 rfl (m := 1) (by decide) (by omega) ?_
                intro x27 h28
                refine ⟨_, rfl, ?_⟩
                show ZW _ _ _ _ _ _ _ (110, [some (.ref 364), some (.ref p0), o28_2, some (.int u28_3), some (.int x27), some (.int x5)], [], M19)
                refine w_gt dX4_findBest_110 (t := 28) rfl ?_
                exact ih28 M19 o28_2 u28_3 x27 (some (.int x5)) hJ25 (by omega) (by omega) (by omega)
              · skip
                refine w_ine_f dX4_findBest_101 (t := 107) rfl (by omega) ?_
                refine w_gt dX4_findBest_104 (t := 113) rfl ?_
                refine w_en dX4_findBest_113 rfl ?_
                exact ⟨_, rfl, hJ25, trivial⟩
          · skip
            refine w_ceq_t dX4_findBest_48 (t := 60) rfl (by have := zt_m1; omega) ?_
            exact ih60 M2 o28_2 u28_3 v28_4 x5 hJ8 (by omega) (by omega) (zbot _) (ztop _) (by omega)
        · skip
          refine w_cge_t dX4_findBest_33 (t := 113) rfl (by have := zt_720; omega) ?_
          refine w_en dX4_findBest_113 rfl ?_
          exact ⟨_, rfl, hJ, trivial⟩
      · intro M o60_2 u60_3 v60_4 v60_5 hJ v60_40 v60_41 v60_50 v60_51 hn
        refine w_lo dX4_findBest_60 rfl rfl rfl rfl ?_
        refine w_lo dX4_findBest_61 rfl rfl rfl rfl ?_
        refine w_pfi dX4_findBest_63 rfl hJ zs_364 (Nat.le_of_ble_eq_true rfl) zo_364_0 (zbot _) (ztop _) (zIR_s (zIR_k (by omega) (by omega))) rfl rfl rfl ?_
        intro M29 hJ30 f31 hn32
        refine w_lo dX4_findBest_66 rfl rfl rfl rfl ?_
        refine w_gf dX4_findBest_67 rfl hJ30.1.1 zs_364 (zr_364_10 hJ30.1) ?_
        refine w_gf dX4_findBest_70 rfl hJ30.1.1 zs_367 (zr_367_2 hJ30.1) ?_
        refine w_ic dX4_findBest_73 zi_0 ?_
        refine w_lo dX4_findBest_74 rfl rfl rfl rfl ?_
        refine w_gf dX4_findBest_75 rfl hJ30.1.1 zs_364 (zr_364_1 hJ30.1) ?_
        refine w_ic dX4_findBest_78 zi_0 ?_
        refine w_bi dX4_findBest_79 (c := 12) (by decide) ?_
        refine w_cpG (kd := 10) (Or.inl rfl) dX4_findBest_81 rfl (Nat.le_of_ble_eq_true rfl) hJ30 zs_368 zs_365 zt_12 (Nat.le_of_ble_eq_true rfl) (Nat.le_of_ble_eq_true rfl) zu_368 zu_365 (by decide) (by decide) (fun _ => (zIR_s (zIR_s (zIR_s (zIR_s (zIR_s (zIR_a (by omega) (by omega)))))))) ?_
        intro M33 hJ34 hn35
        show ZW _ _ _ _ _ _ _ (84, [some (.ref 364), some (.ref p0), o60_2, some (.int u60_3), some (.int v60_4), some (.int v60_5)], [], M33)
        refine w_lo dX4_findBest_84 rfl rfl rfl rfl ?_
        refine w_gf dX4_findBest_85 rfl hJ34.1.1 zs_364 (zr_364_10 hJ34.1) ?_
        refine w_gf dX4_findBest_88 rfl hJ34.1.1 zs_367 (zr_367_2 hJ34.1) ?_
        refine w_lo dX4_findBest_91 rfl rfl rfl rfl ?_
        refine w_gf dX4_findBest_92 rfl hJ34.1.1 zs_364 (zr_364_10 hJ34.1) ?_
        refine w_gfi dX4_findBest_95 rfl hJ34.1 zs_367 (Nat.le_of_ble_eq_true rfl) zo_367_0 ?_
        intro x36 f37 h38 h39
        refine w_ss dX4_findBest_98 rfl rfl (As := [.ref 368, .int x36]) rfl rfl (Nat.le_of_ble_eq_true rfl) ?_
        refine ZV.imp (k_1029 x36 (by omega) (by omega) hN hJ34.1) ?_
        rintro _ ⟨x43, M40, rfl, h44, h45, hJ41, hq42⟩
        have hJ46 := zJ_trans hJ34 hJ41 (zSub_cons (fun _ _ h h' hk => zIR_s (zIR_s (zIR_s (zIR_s (zIR_s (zIR_s (zIR_a (by omega) (by omega)))))))) zSub_nil)
        show ZW _ _ _ _ _ _ _ (101, [some (.ref 364), some (.ref p0), o60_2, some (.int u60_3), some (.int v60_4), some (.int v60_5)], [.int x43], M40)
        rcases Int.decEq x43.toInt (0 : Int) with h47 | h47
        · skip
          refine w_ine_t dX4_findBest_101 (t := 107) rfl (by omega) ?_
          refine w_inc (kk := 4) dX4_findBest_107 rfl (m := 1) (by decide) (by omega) ?_
          intro x48 h49
          refine ⟨_, rfl, ?_⟩
          show ZW _ _ _ _ _ _ _ (110, [some (.ref 364), some (.ref p0), o60_2, some (.int u60_3), some (.int x48), some (.int v60_5)], [], M40)
          refine w_gt dX4_findBest_110 (t := 28) rfl ?_
          exact ih28 M40 o60_2 u60_3 x48 (some (.int v60_5)) hJ46 (by omega) (by omega) (by omega)
        · skip
          refine w_ine_f dX4_findBest_101 (t := 107) rfl (by omega) ?_
          refine w_gt dX4_findBest_104 (t := 113) rfl ?_
          refine w_en dX4_findBest_113 rfl ?_
          exact ⟨_, rfl, hJ46, trivial⟩
  obtain ⟨ih28, ih60⟩ := main 4011
  show ZW _ _ _ _ _ _ _ (0, [some (.ref 364), some (.ref p0), some (.ref p1), some (.int a2), none, none], [], M0)
  refine w_lo dX4_findBest_0 rfl rfl rfl rfl ?_
  refine w_gfi dX4_findBest_1 rfl hJ0.1 zs_364 (Nat.le_of_ble_eq_true rfl) zo_364_7 ?_
  intro x50 f51 h52 h53
  refine w_lo dX4_findBest_4 rfl rfl rfl rfl ?_
  rcases Int.decEq x50.toInt a2.toInt with h54 | h54
  · skip
    refine w_cne_t dX4_findBest_5 (t := 9) rfl (by omega) ?_
    refine w_lo dX4_findBest_9 rfl rfl rfl rfl ?_
    refine w_lo dX4_findBest_10 rfl rfl rfl rfl ?_
    refine w_pfi dX4_findBest_11 rfl hJ0 zs_364 (Nat.le_of_ble_eq_true rfl) zo_364_7 (zbot _) (ztop _) (zIR_s (zIR_s (zIR_s (zIR_s (zIR_s (zIR_s (zIR_s (zIR_s (zIR_s (zIR_k (by omega) (by omega))))))))))) rfl rfl rfl ?_
    intro M55 hJ56 f57 hn58
    refine w_lo dX4_findBest_14 rfl rfl rfl rfl ?_
    refine w_lo dX4_findBest_15 rfl rfl rfl rfl ?_
    refine w_lo dX4_findBest_16 rfl rfl rfl rfl ?_
    refine w_iv dX4_findBest_17 rfl rfl (As := [.ref p0, .ref p1]) rfl rfl hJ56.1.1 zs_364 (Nat.le_of_ble_eq_true rfl) ?_
    refine ZV.imp (k_1026 p0 hp0 p1 hp1 hN hJ56.1) ?_
    rintro _ ⟨M59, rfl, hJ60, hq61⟩
    have hJ62 := zJ_trans hJ56 hJ60 (zSub_cons (fun _ _ h h' hk => zIR_s (zIR_s (zIR_e (by omega) (by omega) hk))) (zSub_cons (fun _ _ h h' hk => zIR_s (zIR_s (zIR_s (zIR_e (by omega) (by omega) hk)))) (zSub_cons (fun _ _ h h' hk => zIR_s (zIR_s (zIR_s (zIR_s (zIR_s (zIR_s (zIR_a (by omega) (by omega)))))))) (zSub_cons (fun _ _ h h' hk => zIR_s (zIR_s (zIR_s (zIR_s (zIR_s (zIR_s (zIR_s (zIR_s (zIR_e (by omega) (by omega) hk))))))))) zSub_nil))))
    show ZW _ _ _ _ _ _ _ (20, [some (.ref 364), some (.ref p0), some (.ref p1), some (.int a2), none, none], [], M59)
    refine w_lo dX4_findBest_20 rfl rfl rfl rfl ?_
    refine w_ic dX4_findBest_21 zi_m1 ?_
    refine w_pfi dX4_findBest_22 rfl hJ62 zs_364 (Nat.le_of_ble_eq_true rfl) zo_364_0 (zbot _) (ztop _) (zIR_s (zIR_k (by omega) (by omega))) rfl rfl rfl ?_
    intro M63 hJ64 f65 hn66
    refine w_ic dX4_findBest_25 zi_0 ?_
    refine w_lo (ml' := [some (.ref 364), some (.ref p0), some (.ref p1), some (.int a2), some (.int 0), none]) dX4_findBest_26 rfl rfl rfl rfl ?_
    exact ih28 M63 (some (.ref p1)) a2 0 none hJ64 (by have := zt_0; omega) (by have := zt_0; omega) (by have := zt_0; omega)
  · skip
    refine w_cne_f dX4_findBest_5 (t := 9) rfl (by omega) ?_
    refine w_en dX4_findBest_8 rfl ?_
    exact ⟨_, rfl, hJ0, trivial⟩
set_option maxRecDepth 100000 in
theorem k_1547 {X : List Int32} {d N : Nat} {M0 : zM} (t : Nat) (ht : zRp t) (a0 : Int32) (ha00 : (0 : Int) ≤ a0.toInt) (ha01 : a0.toInt ≤ 11) (a1 : Int32) (ha10 : (0 : Int) ≤ a1.toInt) (ha11 : a1.toInt ≤ 11) (hN : N ≤ 600) (hB0 : zB N M0) : ZV X (d + 1) 1547 [.ref t, .int a0, .int a1] M0 (zRV N [(t + 1, t + 2, 1000)] M0 (fun _ => True)) := by
  have hbt := zRp_b ht
  have hJ0 : zJ N [(t + 1, t + 2, 1000)] M0 M0 := zJ_refl hB0
  refine ZV.of (ini := false) rfl (Nat.le_of_ble_eq_true rfl) (by decide +kernel) ?_
  show ZW _ _ _ _ _ _ _ (0, [some (.ref t), some (.int a0), some (.int a1), none], [], M0)
  refine w_lo dX6_change_0 rfl rfl rfl rfl ?_
  refine w_gf dX6_change_1 rfl hJ0.1.1 (zs_6_0 ht) (zr_6_0_2 ht hJ0.1) ?_
  refine w_lo dX6_change_4 rfl rfl rfl rfl ?_
  refine w_iai dX6_change_5 hJ0.1 (zs_6_1 ht) (by omega) (by omega) (zu_6_1 ht) ?_
  intro x4 f1 h2 h3
  refine w_lo (ml' := [some (.ref t), some (.int a0), some (.int a1), some (.int x4)]) dX6_change_6 rfl rfl rfl rfl ?_
  refine w_lo dX6_change_7 rfl rfl rfl rfl ?_
  refine w_gf dX6_change_8 rfl hJ0.1.1 (zs_6_0 ht) (zr_6_0_2 ht hJ0.1) ?_
  refine w_lo dX6_change_11 rfl rfl rfl rfl ?_
  refine w_lo dX6_change_12 rfl rfl rfl rfl ?_
  refine w_gf dX6_change_13 rfl hJ0.1.1 (zs_6_0 ht) (zr_6_0_2 ht hJ0.1) ?_
  refine w_lo dX6_change_16 rfl rfl rfl rfl ?_
  refine w_iai dX6_change_17 hJ0.1 (zs_6_1 ht) (by omega) (by omega) (zu_6_1 ht) ?_
  intro x8 f5 h6 h7
  refine w_isi dX6_change_18 hJ0 (zs_6_1 ht) (by omega) (by omega) (zu_6_1 ht) (by omega) (by omega) (zIR_a (by omega) (by omega)) ?_
  intro M9 hJ10 f11 hn12
  refine w_lo dX6_change_19 rfl rfl rfl rfl ?_
  refine w_gf dX6_change_20 rfl hJ10.1.1 (zs_6_0 ht) (zr_6_0_2 ht hJ10.1) ?_
  refine w_lo dX6_change_23 rfl rfl rfl rfl ?_
  refine w_lo dX6_change_24 rfl rfl rfl rfl ?_
  refine w_isi dX6_change_25 hJ10 (zs_6_1 ht) (by omega) (by omega) (zu_6_1 ht) (by omega) (by omega) (zIR_a (by omega) (by omega)) ?_
  intro M13 hJ14 f15 hn16
  refine w_en dX6_change_26 rfl ?_
  exact ⟨_, rfl, hJ14, trivial⟩
set_option maxRecDepth 100000 in
theorem k_1030 {X : List Int32} {d N : Nat} {M0 : zM} (p0 : Nat) (hp0 : zDm p0) (p1 : Nat) (hp1 : zRp p1) (a2 : Int32) (hN : N ≤ 600) (hB0 : zB N M0) : ZV X (d + 7) 1030 [.ref 364, .ref p0, .ref p1, .int a2] M0 (zRV N [(p0 + 19, p0 + 21, 1000), (367, 368, 0), (367, 368, 1), (381, 382, 1), (366, 367, 1000), (368, 380, 1000), (382, 383, 1000), (367, 368, 14), (364, 365, 2), (364, 365, 3), (364, 365, 8)] M0 (fun _ => True)) := by
  have hbp0 := zDm_b hp0
  have hbp1 := zRp_b hp1
  have hJ0 : zJ N [(p0 + 19, p0 + 21, 1000), (367, 368, 0), (367, 368, 1), (381, 382, 1), (366, 367, 1000), (368, 380, 1000), (382, 383, 1000), (367, 368, 14), (364, 365, 2), (364, 365, 3), (364, 365, 8)] M0 M0 := zJ_refl hB0
  refine ZV.of (ini := false) rfl (Nat.le_of_ble_eq_true rfl) (by decide +kernel) ?_
  have main : ∀ n : Nat,
      (∀ (M : zM) (o55_2 : Option Value) (u55_3 : Int32) (v55_4 : Int32) (o55_5 : Option Value) (o55_6 : Option Value) (o55_7 : Option Value) (o55_8 : Option Value) (o55_9 : Option Value) (o55_10 : Option Value), zJ N [(p0 + 19, p0 + 21, 1000), (367, 368, 0), (367, 368, 1), (381, 382, 1), (366, 367, 1000), (368, 380, 1000), (382, 383, 1000), (367, 368, 14), (364, 365, 2), (364, 365, 3), (364, 365, 8)] M0 M → ((0 : Int) ≤ v55_4.toInt) → (v55_4.toInt ≤ 1000000) → 985 * (1000000 - v55_4.toInt) + 983 < (n : Int) → ZW X (d + 6) 4 false none cX4_findExchanges (zRV N [(p0 + 19, p0 + 21, 1000), (367, 368, 0), (367, 368, 1), (381, 382, 1), (366, 367, 1000), (368, 380, 1000), (382, 383, 1000), (367, 368, 14), (364, 365, 2), (364, 365, 3), (364, 365, 8)] M0 (fun _ => True)) (55, [some (.ref 364), some (.ref p0), o55_2, some (.int u55_3), some (.int v55_4), o55_5, o55_6, o55_7, o55_8, o55_9, o55_10], [], M)) ∧
      (∀ (M : zM) (o77_2 : Option Value) (u77_3 : Int32) (v77_4 : Int32) (v77_5 : Int32) (v77_6 : Int32) (v77_7 : Int32) (v77_8 : Int32) (o77_9 : Option Value) (o77_10 : Option Value), zJ N [(p0 + 19, p0 + 21, 1000), (367, 368, 0), (367, 368, 1), (381, 382, 1), (366, 367, 1000), (368, 380, 1000), (382, 383, 1000), (367, 368, 14), (364, 365, 2), (364, 365, 3), (364, 365, 8)] M0 M → ((0 : Int) ≤ v77_4.toInt) → (v77_4.toInt ≤ 999999) → ((-2147483648 : Int) ≤ v77_5.toInt) → (v77_5.toInt ≤ 2147483647) → ((-1 : Int) ≤ v77_6.toInt) → (v77_6.toInt ≤ 11) → ((-1 : Int) ≤ v77_7.toInt) → (v77_7.toInt ≤ 11) → ((0 : Int) ≤ v77_8.toInt) → (v77_8.toInt ≤ 12) → (v77_6.toInt = -1 ∧ v77_7.toInt = -1 ∨ 0 ≤ v77_6.toInt ∧ 0 ≤ v77_7.toInt) → 985 * (1000000 - v77_4.toInt) + 70 * (12 - v77_8.toInt) + 67 < (n : Int) → ZW X (d + 6) 4 false none cX4_findExchanges (zRV N [(p0 + 19, p0 + 21, 1000), (367, 368, 0), (367, 368, 1), (381, 382, 1), (366, 367, 1000), (368, 380, 1000), (382, 383, 1000), (367, 368, 14), (364, 365, 2), (364, 365, 3), (364, 365, 8)] M0 (fun _ => True)) (77, [some (.ref 364), some (.ref p0), o77_2, some (.int u77_3), some (.int v77_4), some (.int v77_5), some (.int v77_6), some (.int v77_7), some (.int v77_8), o77_9, o77_10], [], M)) ∧
      (∀ (M : zM) (o95_2 : Option Value) (u95_3 : Int32) (v95_4 : Int32) (v95_5 : Int32) (v95_6 : Int32) (v95_7 : Int32) (v95_8 : Int32) (v95_9 : Int32) (o95_10 : Option Value), zJ N [(p0 + 19, p0 + 21, 1000), (367, 368, 0), (367, 368, 1), (381, 382, 1), (366, 367, 1000), (368, 380, 1000), (382, 383, 1000), (367, 368, 14), (364, 365, 2), (364, 365, 3), (364, 365, 8)] M0 M → ((0 : Int) ≤ v95_4.toInt) → (v95_4.toInt ≤ 999999) → ((-2147483648 : Int) ≤ v95_5.toInt) → (v95_5.toInt ≤ 2147483647) → ((-1 : Int) ≤ v95_6.toInt) → (v95_6.toInt ≤ 11) → ((-1 : Int) ≤ v95_7.toInt) → (v95_7.toInt ≤ 11) → ((0 : Int) ≤ v95_8.toInt) → (v95_8.toInt ≤ 11) → ((1 : Int) ≤ v95_9.toInt) → (v95_9.toInt ≤ 12) → (v95_6.toInt = -1 ∧ v95_7.toInt = -1 ∨ 0 ≤ v95_6.toInt ∧ 0 ≤ v95_7.toInt) → 985 * (1000000 - v95_4.toInt) + 70 * (12 - v95_8.toInt) + 5 * (12 - v95_9.toInt) + 1 < (n : Int) → ZW X (d + 6) 4 false none cX4_findExchanges (zRV N [(p0 + 19, p0 + 21, 1000), (367, 368, 0), (367, 368, 1), (381, 382, 1), (366, 367, 1000), (368, 380, 1000), (382, 383, 1000), (367, 368, 14), (364, 365, 2), (364, 365, 3), (364, 365, 8)] M0 (fun _ => True)) (95, [some (.ref 364), some (.ref p0), o95_2, some (.int u95_3), some (.int v95_4), some (.int v95_5), some (.int v95_6), some (.int v95_7), some (.int v95_8), some (.int v95_9), o95_10], [], M)) := by
    intro n
    induction n with
    | zero =>
      exact ⟨(fun M o55_2 u55_3 v55_4 o55_5 o55_6 o55_7 o55_8 o55_9 o55_10 hJ v55_40 v55_41 hn => absurd hn (by omega)), (fun M o77_2 u77_3 v77_4 v77_5 v77_6 v77_7 v77_8 o77_9 o77_10 hJ v77_40 v77_41 v77_50 v77_51 v77_60 v77_61 v77_70 v77_71 v77_80 v77_81 ann0 hn => absurd hn (by omega)), (fun M o95_2 u95_3 v95_4 v95_5 v95_6 v95_7 v95_8 v95_9 o95_10 hJ v95_40 v95_41 v95_50 v95_51 v95_60 v95_61 v95_70 v95_71 v95_80 v95_81 v95_90 v95_91 ann0 hn => absurd hn (by omega))⟩
    | succ n ih =>
      obtain ⟨ih55, ih77, ih95⟩ := ih
      refine ⟨?_, ?_, ?_⟩
      · intro M o55_2 u55_3 v55_4 o55_5 o55_6 o55_7 o55_8 o55_9 o55_10 hJ v55_40 v55_41 hn
        refine w_lo dX4_findExchanges_55 rfl rfl rfl rfl ?_
        refine w_me (st' := [.int 1000000, .int v55_4]) dX4_findExchanges_57 rfl rfl rfl rfl rfl ?_
        rcases zcut v55_4.toInt (1000000 : Int) with h1 | h1
        · skip
          refine w_cge_f dX4_findExchanges_59 (t := 209) rfl (by have := zt_1000000; omega) ?_
          refine w_lo dX4_findExchanges_62 rfl rfl rfl rfl ?_
          refine w_gfi dX4_findExchanges_63 rfl hJ.1 zs_364 (Nat.le_of_ble_eq_true rfl) zo_364_2 ?_
          intro x2 f3 h4 h5
          refine w_lo (ml' := [some (.ref 364), some (.ref p0), o55_2, some (.int u55_3), some (.int v55_4), some (.int x2), o55_6, o55_7, o55_8, o55_9, o55_10]) dX4_findExchanges_66 rfl rfl rfl rfl ?_
          refine w_ic dX4_findExchanges_68 zi_m1 ?_
          refine w_lo (ml' := [some (.ref 364), some (.ref p0), o55_2, some (.int u55_3), some (.int v55_4), some (.int x2), some (.int (-1)), o55_7, o55_8, o55_9, o55_10]) dX4_findExchanges_69 rfl rfl rfl rfl ?_
          refine w_ic dX4_findExchanges_71 zi_m1 ?_
          refine w_lo (ml' := [some (.ref 364), some (.ref p0), o55_2, some (.int u55_3), some (.int v55_4), some (.int x2), some (.int (-1)), some (.int (-1)), o55_8, o55_9, o55_10]) dX4_findExchanges_72 rfl rfl rfl rfl ?_
          refine w_ic dX4_findExchanges_74 zi_0 ?_
          refine w_lo (ml' := [some (.ref 364), some (.ref p0), o55_2, some (.int u55_3), some (.int v55_4), some (.int x2), some (.int (-1)), some (.int (-1)), some (.int 0), o55_9, o55_10]) dX4_findExchanges_75 rfl rfl rfl rfl ?_
          exact ih77 M o55_2 u55_3 v55_4 x2 (-1) (-1) 0 o55_9 o55_10 hJ (by omega) (by omega) (zbot _) (ztop _) (by have := zt_m1; omega) (by have := zt_m1; omega) (by have := zt_m1; omega) (by have := zt_m1; omega) (by have := zt_0; omega) (by have := zt_0; omega) (by have := zt_m1; have := zt_0; omega) (by have := zt_m1; have := zt_0; omega)
        · skip
          refine w_cge_t dX4_findExchanges_59 (t := 209) rfl (by have := zt_1000000; omega) ?_
          refine w_lo dX4_findExchanges_209 rfl rfl rfl rfl ?_
          refine w_gf dX4_findExchanges_210 rfl hJ.1.1 zs_364 (zr_364_10 hJ.1) ?_
          refine w_gf dX4_findExchanges_213 rfl hJ.1.1 zs_367 (zr_367_2 hJ.1) ?_
          refine w_ic dX4_findExchanges_216 zi_0 ?_
          refine w_lo dX4_findExchanges_217 rfl rfl rfl rfl ?_
          refine w_gf dX4_findExchanges_218 rfl hJ.1.1 zs_364 (zr_364_4 hJ.1) ?_
          refine w_ic dX4_findExchanges_221 zi_0 ?_
          refine w_bi dX4_findExchanges_222 (c := 12) (by decide) ?_
          refine w_cpG (kd := 10) (Or.inl rfl) dX4_findExchanges_224 rfl (Nat.le_of_ble_eq_true rfl) hJ zs_368 zs_366 zt_12 (Nat.le_of_ble_eq_true rfl) (Nat.le_of_ble_eq_true rfl) zu_368 zu_366 (by decide) (by decide) (fun _ => (zIR_s (zIR_s (zIR_s (zIR_s (zIR_a (by omega) (by omega))))))) ?_
          intro M6 hJ7 hn8
          show ZW _ _ _ _ _ _ _ (227, [some (.ref 364), some (.ref p0), o55_2, some (.int u55_3), some (.int v55_4), o55_5, o55_6, o55_7, o55_8, o55_9, o55_10], [], M6)
          refine w_en dX4_findExchanges_227 rfl ?_
          exact ⟨_, rfl, hJ7, trivial⟩
      · intro M o77_2 u77_3 v77_4 v77_5 v77_6 v77_7 v77_8 o77_9 o77_10 hJ v77_40 v77_41 v77_50 v77_51 v77_60 v77_61 v77_70 v77_71 v77_80 v77_81 ann0 hn
        refine w_lo dX4_findExchanges_77 rfl rfl rfl rfl ?_
        refine w_lo dX4_findExchanges_79 rfl rfl rfl rfl ?_
        refine w_gf dX4_findExchanges_80 rfl hJ.1.1 zs_364 (zr_364_10 hJ.1) ?_
        refine w_gfi dX4_findExchanges_83 rfl hJ.1 zs_367 (Nat.le_of_ble_eq_true rfl) zo_367_0 ?_
        intro x9 f10 h11 h12
        rcases zcut v77_8.toInt x9.toInt with h13 | h13
        · skip
          refine w_cge_f dX4_findExchanges_86 (t := 167) rfl (by omega) ?_
          refine w_lo dX4_findExchanges_89 rfl rfl rfl rfl ?_
          refine w_ic dX4_findExchanges_91 zi_1 ?_
          refine w_add dX4_findExchanges_92 (by have := zt_1; omega) ?_
          intro x14 h15
          have := zt_1
          refine w_lo (ml' := [some (.ref 364), some (.ref p0), o77_2, some (.int u77_3), some (.int v77_4), some (.int v77_5), some (.int v77_6), some (.int v77_7), some (.int v77_8), some (.int x14), o77_10]) dX4_findExchanges_93 rfl rfl rfl rfl ?_
          exact ih95 M o77_2 u77_3 v77_4 v77_5 v77_6 v77_7 v77_8 x14 o77_10 hJ (by omega) (by omega) (zbot _) (ztop _) (by omega) (by omega) (by omega) (by omega) (by omega) (by omega) (by omega) (by omega) (by omega) (by omega)
        · skip
          refine w_cge_t dX4_findExchanges_86 (t := 167) rfl (by omega) ?_
          refine w_lo dX4_findExchanges_167 rfl rfl rfl rfl ?_
          refine w_ic dX4_findExchanges_169 zi_m1 ?_
          rcases Int.decEq v77_6.toInt (-1 : Int) with h16 | h16
          · skip
            refine w_cne_t dX4_findExchanges_170 (t := 176) rfl (by have := zt_m1; omega) ?_
            refine w_lo dX4_findExchanges_176 rfl rfl rfl rfl ?_
            refine w_gf dX4_findExchanges_177 rfl hJ.1.1 zs_364 (zr_364_10 hJ.1) ?_
            refine w_lo dX4_findExchanges_180 rfl rfl rfl rfl ?_
            refine w_lo dX4_findExchanges_182 rfl rfl rfl rfl ?_
            refine w_iv dX4_findExchanges_184 rfl rfl (As := [.int v77_6, .int v77_7]) rfl rfl hJ.1.1 zs_367 (Nat.le_of_ble_eq_true rfl) ?_
            refine ZV.imp (k_1547 367 hb_6_367 v77_6 (by omega) (by omega) v77_7 (by omega) (by omega) hN hJ.1) ?_
            rintro _ ⟨M17, rfl, hJ18, hq19⟩
            have hJ20 := zJ_trans hJ hJ18 (zSub_cons (fun _ _ h h' hk => zIR_s (zIR_s (zIR_s (zIR_s (zIR_s (zIR_a (by omega) (by omega))))))) zSub_nil)
            show ZW _ _ _ _ _ _ _ (187, [some (.ref 364), some (.ref p0), o77_2, some (.int u77_3), some (.int v77_4), some (.int v77_5), some (.int v77_6), some (.int v77_7), some (.int v77_8), o77_9, o77_10], [], M17)
            refine w_lo dX4_findExchanges_187 rfl rfl rfl rfl ?_
            refine w_lo dX4_findExchanges_188 rfl rfl rfl rfl ?_
            refine w_pfi dX4_findExchanges_190 rfl hJ20 zs_364 (Nat.le_of_ble_eq_true rfl) zo_364_2 (zbot _) (ztop _) (zIR_s (zIR_s (zIR_s (zIR_s (zIR_s (zIR_s (zIR_s (zIR_s (zIR_k (by omega) (by omega)))))))))) rfl rfl rfl ?_
            intro M21 hJ22 f23 hn24
            refine w_lo dX4_findExchanges_193 rfl rfl rfl rfl ?_
            refine w_pu dX4_findExchanges_194 rfl rfl ?_
            refine w_gfi dX4_findExchanges_195 rfl hJ22.1 zs_364 (Nat.le_of_ble_eq_true rfl) zo_364_3 ?_
            intro x25 f26 h27 h28
            refine w_ic dX4_findExchanges_198 zi_1 ?_
            refine w_puI dX4_findExchanges_199 rfl rfl ?_
            intro x29
            refine w_pfi dX4_findExchanges_200 rfl hJ22 zs_364 (Nat.le_of_ble_eq_true rfl) zo_364_3 (zbot _) (ztop _) (zIR_s (zIR_s (zIR_s (zIR_s (zIR_s (zIR_s (zIR_s (zIR_s (zIR_s (zIR_k (by omega) (by omega))))))))))) rfl rfl rfl ?_
            intro M30 hJ31 f32 hn33
            refine w_inc (kk := 4) dX4_findExchanges_203 rfl (m := 1) (by decide) (by omega) ?_
            intro x34 h35
            refine ⟨_, rfl, ?_⟩
            show ZW _ _ _ _ _ _ _ (206, [some (.ref 364), some (.ref p0), o77_2, some (.int u77_3), some (.int x34), some (.int v77_5), some (.int v77_6), some (.int v77_7), some (.int v77_8), o77_9, o77_10], [], M30)
            refine w_gt dX4_findExchanges_206 (t := 55) rfl ?_
            exact ih55 M30 o77_2 u77_3 x34 (some (.int v77_5)) (some (.int v77_6)) (some (.int v77_7)) (some (.int v77_8)) o77_9 o77_10 hJ31 (by omega) (by omega) (by omega)
          · skip
            refine w_cne_f dX4_findExchanges_170 (t := 176) rfl (by have := zt_m1; omega) ?_
            refine w_gt dX4_findExchanges_173 (t := 209) rfl ?_
            refine w_lo dX4_findExchanges_209 rfl rfl rfl rfl ?_
            refine w_gf dX4_findExchanges_210 rfl hJ.1.1 zs_364 (zr_364_10 hJ.1) ?_
            refine w_gf dX4_findExchanges_213 rfl hJ.1.1 zs_367 (zr_367_2 hJ.1) ?_
            refine w_ic dX4_findExchanges_216 zi_0 ?_
            refine w_lo dX4_findExchanges_217 rfl rfl rfl rfl ?_
            refine w_gf dX4_findExchanges_218 rfl hJ.1.1 zs_364 (zr_364_4 hJ.1) ?_
            refine w_ic dX4_findExchanges_221 zi_0 ?_
            refine w_bi dX4_findExchanges_222 (c := 12) (by decide) ?_
            refine w_cpG (kd := 10) (Or.inl rfl) dX4_findExchanges_224 rfl (Nat.le_of_ble_eq_true rfl) hJ zs_368 zs_366 zt_12 (Nat.le_of_ble_eq_true rfl) (Nat.le_of_ble_eq_true rfl) zu_368 zu_366 (by decide) (by decide) (fun _ => (zIR_s (zIR_s (zIR_s (zIR_s (zIR_a (by omega) (by omega))))))) ?_
            intro M36 hJ37 hn38
            show ZW _ _ _ _ _ _ _ (227, [some (.ref 364), some (.ref p0), o77_2, some (.int u77_3), some (.int v77_4), some (.int v77_5), some (.int v77_6), some (.int v77_7), some (.int v77_8), o77_9, o77_10], [], M36)
            refine w_en dX4_findExchanges_227 rfl ?_
            exact ⟨_, rfl, hJ37, trivial⟩
      · intro M o95_2 u95_3 v95_4 v95_5 v95_6 v95_7 v95_8 v95_9 o95_10 hJ v95_40 v95_41 v95_50 v95_51 v95_60 v95_61 v95_70 v95_71 v95_80 v95_81 v95_90 v95_91 ann0 hn
        refine w_lo dX4_findExchanges_95 rfl rfl rfl rfl ?_
        refine w_lo dX4_findExchanges_97 rfl rfl rfl rfl ?_
        refine w_gf dX4_findExchanges_98 rfl hJ.1.1 zs_364 (zr_364_10 hJ.1) ?_
        refine w_gfi dX4_findExchanges_101 rfl hJ.1 zs_367 (Nat.le_of_ble_eq_true rfl) zo_367_0 ?_
        intro x39 f40 h41 h42
        rcases zcut v95_9.toInt x39.toInt with h43 | h43
        · skip
          refine w_cge_f dX4_findExchanges_104 (t := 161) rfl (by omega) ?_
          refine w_lo dX4_findExchanges_107 rfl rfl rfl rfl ?_
          refine w_gf dX4_findExchanges_108 rfl hJ.1.1 zs_364 (zr_364_10 hJ.1) ?_
          refine w_lo dX4_findExchanges_111 rfl rfl rfl rfl ?_
          refine w_lo dX4_findExchanges_113 rfl rfl rfl rfl ?_
          refine w_iv dX4_findExchanges_115 rfl rfl (As := [.int v95_8, .int v95_9]) rfl rfl hJ.1.1 zs_367 (Nat.le_of_ble_eq_true rfl) ?_
          refine ZV.imp (k_1547 367 hb_6_367 v95_8 (by omega) (by omega) v95_9 (by omega) (by omega) hN hJ.1) ?_
          rintro _ ⟨M44, rfl, hJ45, hq46⟩
          have hJ47 := zJ_trans hJ hJ45 (zSub_cons (fun _ _ h h' hk => zIR_s (zIR_s (zIR_s (zIR_s (zIR_s (zIR_a (by omega) (by omega))))))) zSub_nil)
          show ZW _ _ _ _ _ _ _ (118, [some (.ref 364), some (.ref p0), o95_2, some (.int u95_3), some (.int v95_4), some (.int v95_5), some (.int v95_6), some (.int v95_7), some (.int v95_8), some (.int v95_9), o95_10], [], M44)
          refine w_lo dX4_findExchanges_118 rfl rfl rfl rfl ?_
          refine w_lo dX4_findExchanges_119 rfl rfl rfl rfl ?_
          refine w_iv dX4_findExchanges_120 rfl rfl (As := [.ref p0]) rfl rfl hJ47.1.1 zs_364 (Nat.le_of_ble_eq_true rfl) ?_
          refine ZV.imp (k_1027 p0 hp0 hN hJ47.1) ?_
          rintro _ ⟨x51, M48, rfl, h52, h53, hJ49, hq50⟩
          have hJ54 := zJ_trans hJ47 hJ49 (zSub_cons (fun _ _ h h' hk => zIR_a (by omega) (by omega)) (zSub_cons (fun _ _ h h' hk => zIR_s (zIR_s (zIR_s (zIR_e (by omega) (by omega) hk)))) (zSub_cons (fun _ _ h h' hk => zIR_s (zIR_s (zIR_s (zIR_s (zIR_s (zIR_s (zIR_a (by omega) (by omega)))))))) zSub_nil)))
          show ZW _ _ _ _ _ _ _ (123, [some (.ref 364), some (.ref p0), o95_2, some (.int u95_3), some (.int v95_4), some (.int v95_5), some (.int v95_6), some (.int v95_7), some (.int v95_8), some (.int v95_9), o95_10], [.int x51], M48)
          refine w_lo (ml' := [some (.ref 364), some (.ref p0), o95_2, some (.int u95_3), some (.int v95_4), some (.int v95_5), some (.int v95_6), some (.int v95_7), some (.int v95_8), some (.int v95_9), some (.int x51)]) dX4_findExchanges_123 rfl rfl rfl rfl ?_
          refine w_lo dX4_findExchanges_125 rfl rfl rfl rfl ?_
          refine w_gf dX4_findExchanges_126 rfl hJ54.1.1 zs_364 (zr_364_10 hJ54.1) ?_
          refine w_lo dX4_findExchanges_129 rfl rfl rfl rfl ?_
          refine w_lo dX4_findExchanges_131 rfl rfl rfl rfl ?_
          refine w_iv dX4_findExchanges_133 rfl rfl (As := [.int v95_8, .int v95_9]) rfl rfl hJ54.1.1 zs_367 (Nat.le_of_ble_eq_true rfl) ?_
          refine ZV.imp (k_1547 367 hb_6_367 v95_8 (by omega) (by omega) v95_9 (by omega) (by omega) hN hJ54.1) ?_
          rintro _ ⟨M55, rfl, hJ56, hq57⟩
          have hJ58 := zJ_trans hJ54 hJ56 (zSub_cons (fun _ _ h h' hk => zIR_s (zIR_s (zIR_s (zIR_s (zIR_s (zIR_a (by omega) (by omega))))))) zSub_nil)
          show ZW _ _ _ _ _ _ _ (136, [some (.ref 364), some (.ref p0), o95_2, some (.int u95_3), some (.int v95_4), some (.int v95_5), some (.int v95_6), some (.int v95_7), some (.int v95_8), some (.int v95_9), some (.int x51)], [], M55)
          refine w_lo dX4_findExchanges_136 rfl rfl rfl rfl ?_
          refine w_lo dX4_findExchanges_138 rfl rfl rfl rfl ?_
          rcases zcut x51.toInt v95_5.toInt with h59 | h59
          · skip
            refine w_cge_f dX4_findExchanges_140 (t := 155) rfl (by omega) ?_
            refine w_lo dX4_findExchanges_143 rfl rfl rfl rfl ?_
            refine w_lo (ml' := [some (.ref 364), some (.ref p0), o95_2, some (.int u95_3), some (.int v95_4), some (.int x51), some (.int v95_6), some (.int v95_7), some (.int v95_8), some (.int v95_9), some (.int x51)]) dX4_findExchanges_145 rfl rfl rfl rfl ?_
            refine w_lo dX4_findExchanges_147 rfl rfl rfl rfl ?_
            refine w_lo (ml' := [some (.ref 364), some (.ref p0), o95_2, some (.int u95_3), some (.int v95_4), some (.int x51), some (.int v95_8), some (.int v95_7), some (.int v95_8), some (.int v95_9), some (.int x51)]) dX4_findExchanges_149 rfl rfl rfl rfl ?_
            refine w_lo dX4_findExchanges_151 rfl rfl rfl rfl ?_
            refine w_lo (ml' := [some (.ref 364), some (.ref p0), o95_2, some (.int u95_3), some (.int v95_4), some (.int x51), some (.int v95_8), some (.int v95_9), some (.int v95_8), some (.int v95_9), some (.int x51)]) dX4_findExchanges_153 rfl rfl rfl rfl ?_
            refine w_inc (kk := 9) dX4_findExchanges_155 rfl (m := 1) (by decide) (by omega) ?_
            intro x60 h61
            refine ⟨_, rfl, ?_⟩
            show ZW _ _ _ _ _ _ _ (158, [some (.ref 364), some (.ref p0), o95_2, some (.int u95_3), some (.int v95_4), some (.int x51), some (.int v95_8), some (.int v95_9), some (.int v95_8), some (.int x60), some (.int x51)], [], M55)
            refine w_gt dX4_findExchanges_158 (t := 95) rfl ?_
            exact ih95 M55 o95_2 u95_3 v95_4 x51 v95_8 v95_9 v95_8 x60 (some (.int x51)) hJ58 (by omega) (by omega) (zbot _) (ztop _) (by omega) (by omega) (by omega) (by omega) (by omega) (by omega) (by omega) (by omega) (by omega) (by omega)
          · skip
            refine w_cge_t dX4_findExchanges_140 (t := 155) rfl (by omega) ?_
            refine w_inc (kk := 9) dX4_findExchanges_155 rfl (m := 1) (by decide) (by omega) ?_
            intro x62 h63
            refine ⟨_, rfl, ?_⟩
            show ZW _ _ _ _ _ _ _ (158, [some (.ref 364), some (.ref p0), o95_2, some (.int u95_3), some (.int v95_4), some (.int v95_5), some (.int v95_6), some (.int v95_7), some (.int v95_8), some (.int x62), some (.int x51)], [], M55)
            refine w_gt dX4_findExchanges_158 (t := 95) rfl ?_
            exact ih95 M55 o95_2 u95_3 v95_4 v95_5 v95_6 v95_7 v95_8 x62 (some (.int x51)) hJ58 (by omega) (by omega) (zbot _) (ztop _) (by omega) (by omega) (by omega) (by omega) (by omega) (by omega) (by omega) (by omega) (by omega) (by omega)
        · skip
          refine w_cge_t dX4_findExchanges_104 (t := 161) rfl (by omega) ?_
          refine w_inc (kk := 8) dX4_findExchanges_161 rfl (m := 1) (by decide) (by omega) ?_
          intro x64 h65
          refine ⟨_, rfl, ?_⟩
          show ZW _ _ _ _ _ _ _ (164, [some (.ref 364), some (.ref p0), o95_2, some (.int u95_3), some (.int v95_4), some (.int v95_5), some (.int v95_6), some (.int v95_7), some (.int x64), some (.int v95_9), o95_10], [], M)
          refine w_gt dX4_findExchanges_164 (t := 77) rfl ?_
          exact ih77 M o95_2 u95_3 v95_4 v95_5 v95_6 v95_7 x64 (some (.int v95_9)) o95_10 hJ (by omega) (by omega) (zbot _) (ztop _) (by omega) (by omega) (by omega) (by omega) (by omega) (by omega) (by omega) (by omega)
  obtain ⟨ih55, ih77, ih95⟩ := main 985003022
  show ZW _ _ _ _ _ _ _ (0, [some (.ref 364), some (.ref p0), some (.ref p1), some (.int a2), none, none, none, none, none, none, none], [], M0)
  refine w_lo dX4_findExchanges_0 rfl rfl rfl rfl ?_
  refine w_gfi dX4_findExchanges_1 rfl hJ0.1 zs_364 (Nat.le_of_ble_eq_true rfl) zo_364_8 ?_
  intro x66 f67 h68 h69
  refine w_lo dX4_findExchanges_4 rfl rfl rfl rfl ?_
  rcases Int.decEq x66.toInt a2.toInt with h70 | h70
  · skip
    refine w_cne_t dX4_findExchanges_5 (t := 9) rfl (by omega) ?_
    refine w_lo dX4_findExchanges_9 rfl rfl rfl rfl ?_
    refine w_lo dX4_findExchanges_10 rfl rfl rfl rfl ?_
    refine w_pfi dX4_findExchanges_11 rfl hJ0 zs_364 (Nat.le_of_ble_eq_true rfl) zo_364_8 (zbot _) (ztop _) (zIR_s (zIR_s (zIR_s (zIR_s (zIR_s (zIR_s (zIR_s (zIR_s (zIR_s (zIR_s (zIR_k (by omega) (by omega)))))))))))) rfl rfl rfl ?_
    intro M71 hJ72 f73 hn74
    refine w_lo dX4_findExchanges_14 rfl rfl rfl rfl ?_
    refine w_lo dX4_findExchanges_15 rfl rfl rfl rfl ?_
    refine w_lo dX4_findExchanges_16 rfl rfl rfl rfl ?_
    refine w_iv dX4_findExchanges_17 rfl rfl (As := [.ref p0, .ref p1]) rfl rfl hJ72.1.1 zs_364 (Nat.le_of_ble_eq_true rfl) ?_
    refine ZV.imp (k_1026 p0 hp0 p1 hp1 hN hJ72.1) ?_
    rintro _ ⟨M75, rfl, hJ76, hq77⟩
    have hJ78 := zJ_trans hJ72 hJ76 (zSub_cons (fun _ _ h h' hk => zIR_s (zIR_e (by omega) (by omega) hk)) (zSub_cons (fun _ _ h h' hk => zIR_s (zIR_s (zIR_e (by omega) (by omega) hk))) (zSub_cons (fun _ _ h h' hk => zIR_s (zIR_s (zIR_s (zIR_s (zIR_s (zIR_a (by omega) (by omega))))))) (zSub_cons (fun _ _ h h' hk => zIR_s (zIR_s (zIR_s (zIR_s (zIR_s (zIR_s (zIR_s (zIR_e (by omega) (by omega) hk)))))))) zSub_nil))))
    show ZW _ _ _ _ _ _ _ (20, [some (.ref 364), some (.ref p0), some (.ref p1), some (.int a2), none, none, none, none, none, none, none], [], M75)
    refine w_lo dX4_findExchanges_20 rfl rfl rfl rfl ?_
    refine w_gf dX4_findExchanges_21 rfl hJ78.1.1 (zs_6_0 hp1) (zr_6_0_2 hp1 hJ78.1) ?_
    refine w_ic dX4_findExchanges_24 zi_0 ?_
    refine w_lo dX4_findExchanges_25 rfl rfl rfl rfl ?_
    refine w_gf dX4_findExchanges_26 rfl hJ78.1.1 zs_364 (zr_364_10 hJ78.1) ?_
    refine w_gf dX4_findExchanges_29 rfl hJ78.1.1 zs_367 (zr_367_2 hJ78.1) ?_
    refine w_ic dX4_findExchanges_32 zi_0 ?_
    refine w_bi dX4_findExchanges_33 (c := 12) (by decide) ?_
    refine w_cpG (kd := 10) (Or.inl rfl) dX4_findExchanges_35 rfl (Nat.le_of_ble_eq_true rfl) hJ78 (zs_6_1 hp1) zs_368 zt_12 (Nat.le_of_ble_eq_true rfl) (Nat.le_of_ble_eq_true rfl) (zu_6_1 hp1) zu_368 (by decide) (by decide) (fun _ => (zIR_s (zIR_s (zIR_s (zIR_s (zIR_s (zIR_a (by omega) (by omega)))))))) ?_
    intro M79 hJ80 hn81
    show ZW _ _ _ _ _ _ _ (38, [some (.ref 364), some (.ref p0), some (.ref p1), some (.int a2), none, none, none, none, none, none, none], [], M79)
    refine w_lo dX4_findExchanges_38 rfl rfl rfl rfl ?_
    refine w_lo dX4_findExchanges_39 rfl rfl rfl rfl ?_
    refine w_lo dX4_findExchanges_40 rfl rfl rfl rfl ?_
    refine w_iv dX4_findExchanges_41 rfl rfl (As := [.ref p0]) rfl rfl hJ80.1.1 zs_364 (Nat.le_of_ble_eq_true rfl) ?_
    refine ZV.imp (k_1027 p0 hp0 hN hJ80.1) ?_
    rintro _ ⟨x85, M82, rfl, h86, h87, hJ83, hq84⟩
    have hJ88 := zJ_trans hJ80 hJ83 (zSub_cons (fun _ _ h h' hk => zIR_a (by omega) (by omega)) (zSub_cons (fun _ _ h h' hk => zIR_s (zIR_s (zIR_s (zIR_e (by omega) (by omega) hk)))) (zSub_cons (fun _ _ h h' hk => zIR_s (zIR_s (zIR_s (zIR_s (zIR_s (zIR_s (zIR_a (by omega) (by omega)))))))) zSub_nil)))
    show ZW _ _ _ _ _ _ _ (44, [some (.ref 364), some (.ref p0), some (.ref p1), some (.int a2), none, none, none, none, none, none, none], [.int x85, .ref 364], M82)
    refine w_pfi dX4_findExchanges_44 rfl hJ88 zs_364 (Nat.le_of_ble_eq_true rfl) zo_364_2 (zbot _) (ztop _) (zIR_s (zIR_s (zIR_s (zIR_s (zIR_s (zIR_s (zIR_s (zIR_s (zIR_k (by omega) (by omega)))))))))) rfl rfl rfl ?_
    intro M89 hJ90 f91 hn92
    refine w_lo dX4_findExchanges_47 rfl rfl rfl rfl ?_
    refine w_ic dX4_findExchanges_48 zi_0 ?_
    refine w_pfi dX4_findExchanges_49 rfl hJ90 zs_364 (Nat.le_of_ble_eq_true rfl) zo_364_3 (zbot _) (ztop _) (zIR_s (zIR_s (zIR_s (zIR_s (zIR_s (zIR_s (zIR_s (zIR_s (zIR_s (zIR_k (by omega) (by omega))))))))))) rfl rfl rfl ?_
    intro M93 hJ94 f95 hn96
    refine w_ic dX4_findExchanges_52 zi_0 ?_
    refine w_lo (ml' := [some (.ref 364), some (.ref p0), some (.ref p1), some (.int a2), some (.int 0), none, none, none, none, none, none]) dX4_findExchanges_53 rfl rfl rfl rfl ?_
    exact ih55 M93 (some (.ref p1)) a2 0 none none none none none none hJ94 (by have := zt_0; omega) (by have := zt_0; omega) (by have := zt_0; omega)
  · skip
    refine w_cne_f dX4_findExchanges_5 (t := 9) rfl (by omega) ?_
    refine w_en dX4_findExchanges_8 rfl ?_
    exact ⟨_, rfl, hJ0, trivial⟩
set_option maxRecDepth 100000 in
theorem k_1031 {X : List Int32} {d N : Nat} {M0 : zM} (p0 : Nat) (hp0 : zDm p0) (p1 : Nat) (hp1 : zRp p1) (a2 : Int32) (hN : N ≤ 600) (hB0 : zB N M0) : ZV X (d + 7) 1031 [.ref 364, .ref p0, .ref p1, .int a2] M0 (zRV N [(p0 + 19, p0 + 21, 1000), (367, 368, 0), (367, 368, 1), (381, 382, 1), (368, 380, 1000), (382, 383, 1000), (367, 368, 14), (364, 365, 5), (364, 365, 6), (364, 365, 9)] M0 (fun _ => True)) := by
  have hbp0 := zDm_b hp0
  have hbp1 := zRp_b hp1
  have hJ0 : zJ N [(p0 + 19, p0 + 21, 1000), (367, 368, 0), (367, 368, 1), (381, 382, 1), (368, 380, 1000), (382, 383, 1000), (367, 368, 14), (364, 365, 5), (364, 365, 6), (364, 365, 9)] M0 M0 := zJ_refl hB0
  refine ZV.of (ini := false) rfl (Nat.le_of_ble_eq_true rfl) (by decide +kernel) ?_
  have main : ∀ n : Nat,
      (∀ (M : zM) (u28_3 : Int32) (v28_4 : Int32) (o28_5 : Option Value) (o28_6 : Option Value) (o28_7 : Option Value), zJ N [(p0 + 19, p0 + 21, 1000), (367, 368, 0), (367, 368, 1), (381, 382, 1), (368, 380, 1000), (382, 383, 1000), (367, 368, 14), (364, 365, 5), (364, 365, 6), (364, 365, 9)] M0 M → ((0 : Int) ≤ v28_4.toInt) → (v28_4.toInt ≤ 4096) → 305 * (4096 - v28_4.toInt) + 303 < (n : Int) → ZW X (d + 6) 4 false none cX4_findTwo (zRV N [(p0 + 19, p0 + 21, 1000), (367, 368, 0), (367, 368, 1), (381, 382, 1), (368, 380, 1000), (382, 383, 1000), (367, 368, 14), (364, 365, 5), (364, 365, 6), (364, 365, 9)] M0 (fun _ => True)) (28, [some (.ref 364), some (.ref p0), some (.ref p1), some (.int u28_3), some (.int v28_4), o28_5, o28_6, o28_7], [], M)) ∧
      (∀ (M : zM) (u63_3 : Int32) (v63_4 : Int32) (v63_5 : Int32) (v63_6 : Int32) (o63_7 : Option Value), zJ N [(p0 + 19, p0 + 21, 1000), (367, 368, 0), (367, 368, 1), (381, 382, 1), (368, 380, 1000), (382, 383, 1000), (367, 368, 14), (364, 365, 5), (364, 365, 6), (364, 365, 9)] M0 M → ((0 : Int) ≤ v63_4.toInt) → (v63_4.toInt ≤ 4095) → ((-2147483648 : Int) ≤ v63_5.toInt) → (v63_5.toInt ≤ 2147483647) → ((0 : Int) ≤ v63_6.toInt) → (v63_6.toInt ≤ 2) → 305 * (4096 - v63_4.toInt) + 75 * (2 - v63_6.toInt) + 72 < (n : Int) → ZW X (d + 6) 4 false none cX4_findTwo (zRV N [(p0 + 19, p0 + 21, 1000), (367, 368, 0), (367, 368, 1), (381, 382, 1), (368, 380, 1000), (382, 383, 1000), (367, 368, 14), (364, 365, 5), (364, 365, 6), (364, 365, 9)] M0 (fun _ => True)) (63, [some (.ref 364), some (.ref p0), some (.ref p1), some (.int u63_3), some (.int v63_4), some (.int v63_5), some (.int v63_6), o63_7], [], M)) ∧
      (∀ (M : zM) (u80_3 : Int32) (v80_4 : Int32) (v80_5 : Int32) (v80_6 : Int32) (v80_7 : Int32) (c_80 : Int32), zJ N [(p0 + 19, p0 + 21, 1000), (367, 368, 0), (367, 368, 1), (381, 382, 1), (368, 380, 1000), (382, 383, 1000), (367, 368, 14), (364, 365, 5), (364, 365, 6), (364, 365, 9)] M0 M → ((0 : Int) ≤ v80_4.toInt) → (v80_4.toInt ≤ 4095) → ((-2147483648 : Int) ≤ v80_5.toInt) → (v80_5.toInt ≤ 2147483647) → ((0 : Int) ≤ v80_6.toInt) → (v80_6.toInt ≤ 1) → ((0 : Int) ≤ v80_7.toInt) → (v80_7.toInt ≤ 12) → (zvl M (367) 0 = some (.int c_80)) → (0 ≤ c_80.toInt) → (c_80.toInt ≤ v80_7.toInt) → 305 * (4096 - v80_4.toInt) + 75 * (2 - v80_6.toInt) + 5 * (12 - v80_7.toInt) + 1 < (n : Int) → ZW X (d + 6) 4 false none cX4_findTwo (zRV N [(p0 + 19, p0 + 21, 1000), (367, 368, 0), (367, 368, 1), (381, 382, 1), (368, 380, 1000), (382, 383, 1000), (367, 368, 14), (364, 365, 5), (364, 365, 6), (364, 365, 9)] M0 (fun _ => True)) (80, [some (.ref 364), some (.ref p0), some (.ref p1), some (.int u80_3), some (.int v80_4), some (.int v80_5), some (.int v80_6), some (.int v80_7)], [], M)) := by
    intro n
    induction n with
    | zero =>
      exact ⟨(fun M u28_3 v28_4 o28_5 o28_6 o28_7 hJ v28_40 v28_41 hn => absurd hn (by omega)), (fun M u63_3 v63_4 v63_5 v63_6 o63_7 hJ v63_40 v63_41 v63_50 v63_51 v63_60 v63_61 hn => absurd hn (by omega)), (fun M u80_3 v80_4 v80_5 v80_6 v80_7 c_80 hJ v80_40 v80_41 v80_50 v80_51 v80_60 v80_61 v80_70 v80_71 hfc_80 hrc_800 hrc_801 hn => absurd hn (by omega))⟩
    | succ n ih =>
      obtain ⟨ih28, ih63, ih80⟩ := ih
      refine ⟨?_, ?_, ?_⟩
      · intro M u28_3 v28_4 o28_5 o28_6 o28_7 hJ v28_40 v28_41 hn
        refine w_lo dX4_findTwo_28 rfl rfl rfl rfl ?_
        refine w_ic dX4_findTwo_30 zi_1 ?_
        refine w_lo dX4_findTwo_31 rfl rfl rfl rfl ?_
        refine w_gfi dX4_findTwo_32 rfl hJ.1 (zs_6_0 hp1) (Nat.le_of_ble_eq_true rfl) (zo_6_0_0 hp1) ?_
        intro x1 f2 h3 h4
        refine w_shl dX4_findTwo_35 (by omega) (by omega) (m := 12) (by omega) ?_
        intro x5 h6 h7
        have : (2 : Int) ^ 12 = 4096 := by decide
        rcases zcut v28_4.toInt x5.toInt with h8 | h8
        · skip
          refine w_cge_f dX4_findTwo_36 (t := 198) rfl (by omega) ?_
          refine w_lo dX4_findTwo_39 rfl rfl rfl rfl ?_
          refine w_lo dX4_findTwo_41 rfl rfl rfl rfl ?_
          refine w_gf dX4_findTwo_42 rfl hJ.1.1 (zs_6_0 hp1) (zr_6_0_2 hp1 hJ.1) ?_
          refine w_ic dX4_findTwo_45 zi_0 ?_
          refine w_iai dX4_findTwo_46 hJ.1 (zs_6_1 hp1) (by have := zt_0; omega) (by have := zt_0; omega) (zu_6_1 hp1) ?_
          intro x12 f9 h10 h11
          refine w_puI dX4_findTwo_47 rfl rfl ?_
          intro x13
          refine w_ic dX4_findTwo_48 zi_1 ?_
          refine w_and dX4_findTwo_49 (m := 1) zt_1 (by omega) ?_
          intro x14 h15 h16
          refine w_ic dX4_findTwo_50 zi_1 ?_
          rcases Int.decEq x14.toInt (1 : Int) with h17 | h17
          · skip
            refine w_cne_t dX4_findTwo_51 (t := 57) rfl (by have := zt_1; omega) ?_
            refine w_ic dX4_findTwo_57 zi_0 ?_
            refine w_lo (ml' := [some (.ref 364), some (.ref p0), some (.ref p1), some (.int u28_3), some (.int v28_4), some (.int 0), o28_6, o28_7]) dX4_findTwo_58 rfl rfl rfl rfl ?_
            refine w_ic dX4_findTwo_60 zi_0 ?_
            refine w_lo (ml' := [some (.ref 364), some (.ref p0), some (.ref p1), some (.int u28_3), some (.int v28_4), some (.int 0), some (.int 0), o28_7]) dX4_findTwo_61 rfl rfl rfl rfl ?_
            exact ih63 M u28_3 v28_4 0 0 o28_7 hJ (by omega) (by omega) (zbot _) (ztop _) (by have := zt_0; omega) (by have := zt_0; omega) (by have := zt_0; omega)
          · skip
            refine w_cne_f dX4_findTwo_51 (t := 57) rfl (by have := zt_1; omega) ?_
            refine w_gt dX4_findTwo_54 (t := 192) rfl ?_
            refine w_inc (kk := 4) dX4_findTwo_192 rfl (m := 1) (by decide) (by omega) ?_
            intro x18 h19
            refine ⟨_, rfl, ?_⟩
            show ZW _ _ _ _ _ _ _ (195, [some (.ref 364), some (.ref p0), some (.ref p1), some (.int u28_3), some (.int x18), o28_5, o28_6, o28_7], [], M)
            refine w_gt dX4_findTwo_195 (t := 28) rfl ?_
            exact ih28 M u28_3 x18 o28_5 o28_6 o28_7 hJ (by omega) (by omega) (by omega)
        · skip
          refine w_cge_t dX4_findTwo_36 (t := 198) rfl (by omega) ?_
          refine w_en dX4_findTwo_198 rfl ?_
          exact ⟨_, rfl, hJ, trivial⟩
      · intro M u63_3 v63_4 v63_5 v63_6 o63_7 hJ v63_40 v63_41 v63_50 v63_51 v63_60 v63_61 hn
        refine w_lo dX4_findTwo_63 rfl rfl rfl rfl ?_
        refine w_ic dX4_findTwo_65 zi_1 ?_
        rcases zcut (1 : Int) v63_6.toInt with h20 | h20
        · skip
          refine w_cgt_t dX4_findTwo_66 (t := 163) rfl (by have := zt_1; omega) ?_
          refine w_lo dX4_findTwo_163 rfl rfl rfl rfl ?_
          refine w_gfi dX4_findTwo_164 rfl hJ.1 zs_364 (Nat.le_of_ble_eq_true rfl) zo_364_5 ?_
          intro x21 f22 h23 h24
          refine w_ic dX4_findTwo_167 zi_m1 ?_
          rcases Int.decEq x21.toInt (-1 : Int) with h25 | h25
          · skip
            refine w_ceq_f dX4_findTwo_168 (t := 180) rfl (by have := zt_m1; omega) ?_
            refine w_lo dX4_findTwo_171 rfl rfl rfl rfl ?_
            refine w_lo dX4_findTwo_173 rfl rfl rfl rfl ?_
            refine w_gf dX4_findTwo_174 rfl hJ.1.1 zs_364 f22 ?_
            rcases zcut v63_5.toInt x21.toInt with h26 | h26
            · skip
              refine w_cge_f dX4_findTwo_177 (t := 192) rfl (by omega) ?_
              refine w_lo dX4_findTwo_180 rfl rfl rfl rfl ?_
              refine w_lo dX4_findTwo_181 rfl rfl rfl rfl ?_
              refine w_pfi dX4_findTwo_183 rfl hJ zs_364 (Nat.le_of_ble_eq_true rfl) zo_364_5 (zbot _) (ztop _) (zIR_s (zIR_s (zIR_s (zIR_s (zIR_s (zIR_s (zIR_s (zIR_k (by omega) (by omega))))))))) rfl rfl rfl ?_
              intro M27 hJ28 f29 hn30
              refine w_lo dX4_findTwo_186 rfl rfl rfl rfl ?_
              refine w_lo dX4_findTwo_187 rfl rfl rfl rfl ?_
              refine w_pfi dX4_findTwo_189 rfl hJ28 zs_364 (Nat.le_of_ble_eq_true rfl) zo_364_6 (by omega) (by omega) (zIR_s (zIR_s (zIR_s (zIR_s (zIR_s (zIR_s (zIR_s (zIR_s (zIR_k (by omega) (by omega)))))))))) rfl rfl rfl ?_
              intro M31 hJ32 f33 hn34
              refine w_inc (kk := 4) dX4_findTwo_192 rfl (m := 1) (by decide) (by omega) ?_
              intro x35 h36
              refine ⟨_, rfl, ?_⟩
              show ZW _ _ _ _ _ _ _ (195, [some (.ref 364), some (.ref p0), some (.ref p1), some (.int u63_3), some (.int x35), some (.int v63_5), some (.int v63_6), o63_7], [], M31)
              refine w_gt dX4_findTwo_195 (t := 28) rfl ?_
              exact ih28 M31 u63_3 x35 (some (.int v63_5)) (some (.int v63_6)) o63_7 hJ32 (by omega) (by omega) (by omega)
            · skip
              refine w_cge_t dX4_findTwo_177 (t := 192) rfl (by omega) ?_
              refine w_inc (kk := 4) dX4_findTwo_192 rfl (m := 1) (by decide) (by omega) ?_
              intro x37 h38
              refine ⟨_, rfl, ?_⟩
              show ZW _ _ _ _ _ _ _ (195, [some (.ref 364), some (.ref p0), some (.ref p1), some (.int u63_3), some (.int x37), some (.int v63_5), some (.int v63_6), o63_7], [], M)
              refine w_gt dX4_findTwo_195 (t := 28) rfl ?_
              exact ih28 M u63_3 x37 (some (.int v63_5)) (some (.int v63_6)) o63_7 hJ (by omega) (by omega) (by omega)
          · skip
            refine w_ceq_t dX4_findTwo_168 (t := 180) rfl (by have := zt_m1; omega) ?_
            refine w_lo dX4_findTwo_180 rfl rfl rfl rfl ?_
            refine w_lo dX4_findTwo_181 rfl rfl rfl rfl ?_
            refine w_pfi dX4_findTwo_183 rfl hJ zs_364 (Nat.le_of_ble_eq_true rfl) zo_364_5 (zbot _) (ztop _) (zIR_s (zIR_s (zIR_s (zIR_s (zIR_s (zIR_s (zIR_s (zIR_k (by omega) (by omega))))))))) rfl rfl rfl ?_
            intro M39 hJ40 f41 hn42
            refine w_lo dX4_findTwo_186 rfl rfl rfl rfl ?_
            refine w_lo dX4_findTwo_187 rfl rfl rfl rfl ?_
            refine w_pfi dX4_findTwo_189 rfl hJ40 zs_364 (Nat.le_of_ble_eq_true rfl) zo_364_6 (by omega) (by omega) (zIR_s (zIR_s (zIR_s (zIR_s (zIR_s (zIR_s (zIR_s (zIR_s (zIR_k (by omega) (by omega)))))))))) rfl rfl rfl ?_
            intro M43 hJ44 f45 hn46
            refine w_inc (kk := 4) dX4_findTwo_192 rfl (m := 1) (by decide) (by omega) ?_
            intro x47 h48
            refine ⟨_, rfl, ?_⟩
            show ZW _ _ _ _ _ _ _ (195, [some (.ref 364), some (.ref p0), some (.ref p1), some (.int u63_3), some (.int x47), some (.int v63_5), some (.int v63_6), o63_7], [], M43)
            refine w_gt dX4_findTwo_195 (t := 28) rfl ?_
            exact ih28 M43 u63_3 x47 (some (.int v63_5)) (some (.int v63_6)) o63_7 hJ44 (by omega) (by omega) (by omega)
        · skip
          refine w_cgt_f dX4_findTwo_66 (t := 163) rfl (by have := zt_1; omega) ?_
          refine w_lo dX4_findTwo_69 rfl rfl rfl rfl ?_
          refine w_gf dX4_findTwo_70 rfl hJ.1.1 zs_364 (zr_364_10 hJ.1) ?_
          refine w_ic dX4_findTwo_73 zi_0 ?_
          refine w_pfi dX4_findTwo_74 rfl hJ zs_367 (Nat.le_of_ble_eq_true rfl) zo_367_0 (by have := zt_0; omega) (by have := zt_0; omega) (zIR_s (zIR_k (by omega) (by omega))) rfl rfl rfl ?_
          intro M49 hJ50 f51 hn52
          refine w_ic dX4_findTwo_77 zi_0 ?_
          refine w_lo (ml' := [some (.ref 364), some (.ref p0), some (.ref p1), some (.int u63_3), some (.int v63_4), some (.int v63_5), some (.int v63_6), some (.int 0)]) dX4_findTwo_78 rfl rfl rfl rfl ?_
          exact ih80 M49 u63_3 v63_4 v63_5 v63_6 0 0 hJ50 (by omega) (by omega) (zbot _) (ztop _) (by omega) (by omega) (by have := zt_0; omega) (by have := zt_0; omega) f51 (by have := zt_0; omega) (by have := zt_0; omega) (by have := zt_0; omega)
      · intro M u80_3 v80_4 v80_5 v80_6 v80_7 c_80 hJ v80_40 v80_41 v80_50 v80_51 v80_60 v80_61 v80_70 v80_71 hfc_80 hrc_800 hrc_801 hn
        refine w_lo dX4_findTwo_80 rfl rfl rfl rfl ?_
        refine w_lo dX4_findTwo_82 rfl rfl rfl rfl ?_
        refine w_gfi dX4_findTwo_83 rfl hJ.1 (zs_6_0 hp1) (Nat.le_of_ble_eq_true rfl) (zo_6_0_0 hp1) ?_
        intro x53 f54 h55 h56
        rcases zcut v80_7.toInt x53.toInt with h57 | h57
        · skip
          refine w_cge_f dX4_findTwo_86 (t := 147) rfl (by omega) ?_
          refine w_lo dX4_findTwo_89 rfl rfl rfl rfl ?_
          refine w_lo dX4_findTwo_91 rfl rfl rfl rfl ?_
          refine w_gf dX4_findTwo_92 rfl hJ.1.1 (zs_6_0 hp1) (zr_6_0_2 hp1 hJ.1) ?_
          refine w_lo dX4_findTwo_95 rfl rfl rfl rfl ?_
          refine w_iai dX4_findTwo_97 hJ.1 (zs_6_1 hp1) (by omega) (by omega) (zu_6_1 hp1) ?_
          intro x61 f58 h59 h60
          refine w_puI dX4_findTwo_98 rfl rfl ?_
          intro x62
          refine w_ic dX4_findTwo_99 zi_1 ?_
          refine w_and dX4_findTwo_100 (m := 1) zt_1 (by omega) ?_
          intro x63 h64 h65
          refine w_lo dX4_findTwo_101 rfl rfl rfl rfl ?_
          rcases Int.decEq x63.toInt v80_6.toInt with h66 | h66
          · skip
            refine w_cne_t dX4_findTwo_103 (t := 141) rfl (by omega) ?_
            refine w_inc (kk := 7) dX4_findTwo_141 rfl (m := 1) (by decide) (by omega) ?_
            intro x67 h68
            refine ⟨_, rfl, ?_⟩
            show ZW _ _ _ _ _ _ _ (144, [some (.ref 364), some (.ref p0), some (.ref p1), some (.int u80_3), some (.int v80_4), some (.int v80_5), some (.int v80_6), some (.int x67)], [], M)
            refine w_gt dX4_findTwo_144 (t := 80) rfl ?_
            exact ih80 M u80_3 v80_4 v80_5 v80_6 x67 c_80 hJ (by omega) (by omega) (zbot _) (ztop _) (by omega) (by omega) (by omega) (by omega) hfc_80 (by omega) (by omega) (by omega)
          · skip
            refine w_cne_f dX4_findTwo_103 (t := 141) rfl (by omega) ?_
            refine w_lo dX4_findTwo_106 rfl rfl rfl rfl ?_
            refine w_gf dX4_findTwo_107 rfl hJ.1.1 zs_364 (zr_364_10 hJ.1) ?_
            refine w_gf dX4_findTwo_110 rfl hJ.1.1 zs_367 (zr_367_2 hJ.1) ?_
            refine w_lo dX4_findTwo_113 rfl rfl rfl rfl ?_
            refine w_gf dX4_findTwo_114 rfl hJ.1.1 zs_364 (zr_364_10 hJ.1) ?_
            refine w_gf dX4_findTwo_117 rfl hJ.1.1 zs_367 hfc_80 ?_
            refine w_lo dX4_findTwo_120 rfl rfl rfl rfl ?_
            refine w_gf dX4_findTwo_121 rfl hJ.1.1 (zs_6_0 hp1) (zr_6_0_2 hp1 hJ.1) ?_
            refine w_lo dX4_findTwo_124 rfl rfl rfl rfl ?_
            refine w_ia dX4_findTwo_126 hJ.1.1 (zs_6_1 hp1) (znat (by omega)) f58 ?_
            refine w_isi dX4_findTwo_127 hJ zs_368 (by omega) (by omega) zu_368 (by omega) (by omega) (zIR_s (zIR_s (zIR_s (zIR_s (zIR_a (by omega) (by omega)))))) ?_
            intro M72 hJ73 f74 hn75
            refine w_lo dX4_findTwo_128 rfl rfl rfl rfl ?_
            refine w_gf dX4_findTwo_129 rfl hJ73.1.1 zs_364 (zr_364_10 hJ73.1) ?_
            refine w_pu dX4_findTwo_132 rfl rfl ?_
            have f76 := (hn75 (367) 0 (Or.inl (by omega))).trans (hfc_80)
            refine w_gf dX4_findTwo_133 rfl hJ73.1.1 zs_367 f76 ?_
            refine w_ic dX4_findTwo_136 zi_1 ?_
            refine w_add dX4_findTwo_137 (by have := zt_1; omega) ?_
            intro x77 h78
            have := zt_1
            refine w_pfi dX4_findTwo_138 rfl hJ73 zs_367 (Nat.le_of_ble_eq_true rfl) zo_367_0 (by omega) (by omega) (zIR_s (zIR_k (by omega) (by omega))) rfl rfl rfl ?_
            intro M79 hJ80 f81 hn82
            refine w_inc (kk := 7) dX4_findTwo_141 rfl (m := 1) (by decide) (by omega) ?_
            intro x83 h84
            refine ⟨_, rfl, ?_⟩
            show ZW _ _ _ _ _ _ _ (144, [some (.ref 364), some (.ref p0), some (.ref p1), some (.int u80_3), some (.int v80_4), some (.int v80_5), some (.int v80_6), some (.int x83)], [], M79)
            refine w_gt dX4_findTwo_144 (t := 80) rfl ?_
            exact ih80 M79 u80_3 v80_4 v80_5 v80_6 x83 x77 hJ80 (by omega) (by omega) (zbot _) (ztop _) (by omega) (by omega) (by omega) (by omega) f81 (by omega) (by omega) (by omega)
        · skip
          refine w_cge_t dX4_findTwo_86 (t := 147) rfl (by omega) ?_
          refine w_lo dX4_findTwo_147 rfl rfl rfl rfl ?_
          refine w_lo dX4_findTwo_149 rfl rfl rfl rfl ?_
          refine w_lo dX4_findTwo_150 rfl rfl rfl rfl ?_
          refine w_iv dX4_findTwo_151 rfl rfl (As := [.ref p0]) rfl rfl hJ.1.1 zs_364 (Nat.le_of_ble_eq_true rfl) ?_
          refine ZV.imp (k_1027 p0 hp0 hN hJ.1) ?_
          rintro _ ⟨x88, M85, rfl, h89, h90, hJ86, hq87⟩
          have hJ91 := zJ_trans hJ hJ86 (zSub_cons (fun _ _ h h' hk => zIR_a (by omega) (by omega)) (zSub_cons (fun _ _ h h' hk => zIR_s (zIR_s (zIR_s (zIR_e (by omega) (by omega) hk)))) (zSub_cons (fun _ _ h h' hk => zIR_s (zIR_s (zIR_s (zIR_s (zIR_s (zIR_a (by omega) (by omega))))))) zSub_nil)))
          show ZW _ _ _ _ _ _ _ (154, [some (.ref 364), some (.ref p0), some (.ref p1), some (.int u80_3), some (.int v80_4), some (.int v80_5), some (.int v80_6), some (.int v80_7)], [.int x88, .int v80_5], M85)
          refine w_puI dX4_findTwo_154 rfl rfl ?_
          intro x92
          refine w_lo (ml' := [some (.ref 364), some (.ref p0), some (.ref p1), some (.int u80_3), some (.int v80_4), some (.int x92), some (.int v80_6), some (.int v80_7)]) dX4_findTwo_155 rfl rfl rfl rfl ?_
          refine w_inc (kk := 6) dX4_findTwo_157 rfl (m := 1) (by decide) (by omega) ?_
          intro x93 h94
          refine ⟨_, rfl, ?_⟩
          show ZW _ _ _ _ _ _ _ (160, [some (.ref 364), some (.ref p0), some (.ref p1), some (.int u80_3), some (.int v80_4), some (.int x92), some (.int x93), some (.int v80_7)], [], M85)
          refine w_gt dX4_findTwo_160 (t := 63) rfl ?_
          exact ih63 M85 u80_3 v80_4 x92 x93 (some (.int v80_7)) hJ91 (by omega) (by omega) (zbot _) (ztop _) (by omega) (by omega) (by omega)
  obtain ⟨ih28, ih63, ih80⟩ := main 1250267
  show ZW _ _ _ _ _ _ _ (0, [some (.ref 364), some (.ref p0), some (.ref p1), some (.int a2), none, none, none, none], [], M0)
  refine w_lo dX4_findTwo_0 rfl rfl rfl rfl ?_
  refine w_gfi dX4_findTwo_1 rfl hJ0.1 zs_364 (Nat.le_of_ble_eq_true rfl) zo_364_9 ?_
  intro x95 f96 h97 h98
  refine w_lo dX4_findTwo_4 rfl rfl rfl rfl ?_
  rcases Int.decEq x95.toInt a2.toInt with h99 | h99
  · skip
    refine w_cne_t dX4_findTwo_5 (t := 9) rfl (by omega) ?_
    refine w_lo dX4_findTwo_9 rfl rfl rfl rfl ?_
    refine w_lo dX4_findTwo_10 rfl rfl rfl rfl ?_
    refine w_pfi dX4_findTwo_11 rfl hJ0 zs_364 (Nat.le_of_ble_eq_true rfl) zo_364_9 (zbot _) (ztop _) (zIR_s (zIR_s (zIR_s (zIR_s (zIR_s (zIR_s (zIR_s (zIR_s (zIR_s (zIR_k (by omega) (by omega))))))))))) rfl rfl rfl ?_
    intro M100 hJ101 f102 hn103
    refine w_lo dX4_findTwo_14 rfl rfl rfl rfl ?_
    refine w_lo dX4_findTwo_15 rfl rfl rfl rfl ?_
    refine w_lo dX4_findTwo_16 rfl rfl rfl rfl ?_
    refine w_iv dX4_findTwo_17 rfl rfl (As := [.ref p0, .ref p1]) rfl rfl hJ101.1.1 zs_364 (Nat.le_of_ble_eq_true rfl) ?_
    refine ZV.imp (k_1026 p0 hp0 p1 hp1 hN hJ101.1) ?_
    rintro _ ⟨M104, rfl, hJ105, hq106⟩
    have hJ107 := zJ_trans hJ101 hJ105 (zSub_cons (fun _ _ h h' hk => zIR_s (zIR_e (by omega) (by omega) hk)) (zSub_cons (fun _ _ h h' hk => zIR_s (zIR_s (zIR_e (by omega) (by omega) hk))) (zSub_cons (fun _ _ h h' hk => zIR_s (zIR_s (zIR_s (zIR_s (zIR_a (by omega) (by omega)))))) (zSub_cons (fun _ _ h h' hk => zIR_s (zIR_s (zIR_s (zIR_s (zIR_s (zIR_s (zIR_e (by omega) (by omega) hk))))))) zSub_nil))))
    show ZW _ _ _ _ _ _ _ (20, [some (.ref 364), some (.ref p0), some (.ref p1), some (.int a2), none, none, none, none], [], M104)
    refine w_lo dX4_findTwo_20 rfl rfl rfl rfl ?_
    refine w_ic dX4_findTwo_21 zi_m1 ?_
    refine w_pfi dX4_findTwo_22 rfl hJ107 zs_364 (Nat.le_of_ble_eq_true rfl) zo_364_5 (zbot _) (ztop _) (zIR_s (zIR_s (zIR_s (zIR_s (zIR_s (zIR_s (zIR_s (zIR_k (by omega) (by omega))))))))) rfl rfl rfl ?_
    intro M108 hJ109 f110 hn111
    refine w_ic dX4_findTwo_25 zi_0 ?_
    refine w_lo (ml' := [some (.ref 364), some (.ref p0), some (.ref p1), some (.int a2), some (.int 0), none, none, none]) dX4_findTwo_26 rfl rfl rfl rfl ?_
    exact ih28 M108 a2 0 none none none hJ109 (by have := zt_0; omega) (by have := zt_0; omega) (by have := zt_0; omega)
  · skip
    refine w_cne_f dX4_findTwo_5 (t := 9) rfl (by omega) ?_
    refine w_en dX4_findTwo_8 rfl ?_
    exact ⟨_, rfl, hJ0, trivial⟩
set_option maxRecDepth 100000 in
theorem k_1283 {X : List Int32} {d N : Nat} {M0 : zM} (a0 : Int32) (ha00 : (0 : Int) ≤ a0.toInt) (ha01 : a0.toInt ≤ 255) (hN : N ≤ 600) (hB0 : zB N M0) : ZV X (d + 5) 1283 [.int a0] M0 (zRI N [] M0 (0) (5) (fun _ _ => True)) := by
  have hJ0 : zJ N [] M0 M0 := zJ_refl hB0
  refine ZV.of (ini := false) rfl (Nat.le_of_ble_eq_true rfl) (by decide +kernel) ?_
  have main : ∀ n : Nat,
      (∀ (M : zM) (v28_0 : Int32), zJ N [] M0 M → ((0 : Int) ≤ v28_0.toInt) → (v28_0.toInt ≤ 255) → 1 < (n : Int) → ZW X (d + 4) 5 false (some .int) cX5_kindOf (zRI N [] M0 (0) (5) (fun _ _ => True)) (28, [some (.int v28_0)], [], M)) := by
    intro n
    induction n with
    | zero =>
      exact (fun M v28_0 hJ v28_00 v28_01 hn => absurd hn (by omega))
    | succ n ih =>
      have ih28 := ih
      · intro M v28_0 hJ v28_00 v28_01 hn
        refine w_lo dX5_kindOf_28 rfl rfl rfl rfl ?_
        refine w_bi dX5_kindOf_29 (c := 48) (by decide) ?_
        rcases zcut v28_0.toInt (48 : Int) with h1 | h1
        · skip
          refine w_clt_t dX5_kindOf_31 (t := 42) rfl (by have := zt_48; omega) ?_
          refine w_lo dX5_kindOf_42 rfl rfl rfl rfl ?_
          rcases zcut (0 : Int) v28_0.toInt with h2 | h2
          · skip
            refine w_ile_f dX5_kindOf_43 (t := 60) rfl (by omega) ?_
            refine w_me (st' := [.ref 1000002]) dX5_kindOf_46 rfl rfl rfl rfl rfl ?_
            refine w_lo dX5_kindOf_48 rfl rfl rfl rfl ?_
            refine w_puI dX5_kindOf_49 rfl rfl ?_
            intro x3
            refine w_ix dX5_kindOf_50 rfl (Nat.le_of_ble_eq_true rfl) (by decide) ?_
            intro x4
            show ZW _ _ _ _ _ _ _ (53, [some (.int v28_0)], [.int x4], M)
            rcases zcut x4.toInt (0 : Int) with h5 | h5
            · skip
              refine w_ilt_t dX5_kindOf_53 (t := 60) rfl (by omega) ?_
              refine w_ic dX5_kindOf_60 zi_1 ?_
              refine w_en dX5_kindOf_61 rfl ?_
              exact ⟨_, _, rfl, (by have := zt_1; omega), (by have := zt_1; omega), hJ, trivial⟩
            · skip
              refine w_ilt_f dX5_kindOf_53 (t := 60) rfl (by omega) ?_
              refine w_ic dX5_kindOf_56 zi_5 ?_
              refine w_gt dX5_kindOf_57 (t := 61) rfl ?_
              refine w_en dX5_kindOf_61 rfl ?_
              exact ⟨_, _, rfl, (by have := zt_5; omega), (by have := zt_5; omega), hJ, trivial⟩
          · skip
            refine w_ile_t dX5_kindOf_43 (t := 60) rfl (by omega) ?_
            refine w_ic dX5_kindOf_60 zi_1 ?_
            refine w_en dX5_kindOf_61 rfl ?_
            exact ⟨_, _, rfl, (by have := zt_1; omega), (by have := zt_1; omega), hJ, trivial⟩
        · skip
          refine w_clt_f dX5_kindOf_31 (t := 42) rfl (by have := zt_48; omega) ?_
          refine w_lo dX5_kindOf_34 rfl rfl rfl rfl ?_
          refine w_bi dX5_kindOf_35 (c := 57) (by decide) ?_
          rcases zcut (57 : Int) v28_0.toInt with h6 | h6
          · skip
            refine w_cgt_t dX5_kindOf_37 (t := 42) rfl (by have := zt_57; omega) ?_
            refine w_lo dX5_kindOf_42 rfl rfl rfl rfl ?_
            refine w_ile_f dX5_kindOf_43 (t := 60) rfl (by omega) ?_
            refine w_me (st' := [.ref 1000002]) dX5_kindOf_46 rfl rfl rfl rfl rfl ?_
            refine w_lo dX5_kindOf_48 rfl rfl rfl rfl ?_
            refine w_puI dX5_kindOf_49 rfl rfl ?_
            intro x7
            refine w_ix dX5_kindOf_50 rfl (Nat.le_of_ble_eq_true rfl) (by decide) ?_
            intro x8
            show ZW _ _ _ _ _ _ _ (53, [some (.int v28_0)], [.int x8], M)
            rcases zcut x8.toInt (0 : Int) with h9 | h9
            · skip
              refine w_ilt_t dX5_kindOf_53 (t := 60) rfl (by omega) ?_
              refine w_ic dX5_kindOf_60 zi_1 ?_
              refine w_en dX5_kindOf_61 rfl ?_
              exact ⟨_, _, rfl, (by have := zt_1; omega), (by have := zt_1; omega), hJ, trivial⟩
            · skip
              refine w_ilt_f dX5_kindOf_53 (t := 60) rfl (by omega) ?_
              refine w_ic dX5_kindOf_56 zi_5 ?_
              refine w_gt dX5_kindOf_57 (t := 61) rfl ?_
              refine w_en dX5_kindOf_61 rfl ?_
              exact ⟨_, _, rfl, (by have := zt_5; omega), (by have := zt_5; omega), hJ, trivial⟩
          · skip
            refine w_cgt_f dX5_kindOf_37 (t := 42) rfl (by have := zt_57; omega) ?_
            refine w_ic dX5_kindOf_40 zi_4 ?_
            refine w_en dX5_kindOf_41 rfl ?_
            exact ⟨_, _, rfl, (by have := zt_4; omega), (by have := zt_4; omega), hJ, trivial⟩
  have ih28 := main 6
  show ZW _ _ _ _ _ _ _ (0, [some (.int a0)], [], M0)
  refine w_lo dX5_kindOf_0 rfl rfl rfl rfl ?_
  refine w_bi dX5_kindOf_1 (c := 32) (by decide) ?_
  rcases Int.decEq a0.toInt (32 : Int) with h10 | h10
  · skip
    refine w_ceq_f dX5_kindOf_3 (t := 12) rfl (by have := zt_32; omega) ?_
    refine w_lo dX5_kindOf_6 rfl rfl rfl rfl ?_
    refine w_bi dX5_kindOf_7 (c := 10) (by decide) ?_
    rcases Int.decEq a0.toInt (10 : Int) with h11 | h11
    · skip
      refine w_cne_t dX5_kindOf_9 (t := 14) rfl (by have := zt_10; omega) ?_
      refine w_lo dX5_kindOf_14 rfl rfl rfl rfl ?_
      refine w_bi dX5_kindOf_15 (c := 97) (by decide) ?_
      rcases zcut a0.toInt (97 : Int) with h12 | h12
      · skip
        refine w_clt_t dX5_kindOf_17 (t := 28) rfl (by have := zt_97; omega) ?_
        exact ih28 M0 a0 hJ0 (by omega) (by omega) (by omega)
      · skip
        refine w_clt_f dX5_kindOf_17 (t := 28) rfl (by have := zt_97; omega) ?_
        refine w_lo dX5_kindOf_20 rfl rfl rfl rfl ?_
        refine w_bi dX5_kindOf_21 (c := 122) (by decide) ?_
        rcases zcut (122 : Int) a0.toInt with h13 | h13
        · skip
          refine w_cgt_t dX5_kindOf_23 (t := 28) rfl (by have := zt_122; omega) ?_
          exact ih28 M0 a0 hJ0 (by omega) (by omega) (by omega)
        · skip
          refine w_cgt_f dX5_kindOf_23 (t := 28) rfl (by have := zt_122; omega) ?_
          refine w_ic dX5_kindOf_26 zi_2 ?_
          refine w_en dX5_kindOf_27 rfl ?_
          exact ⟨_, _, rfl, (by have := zt_2; omega), (by have := zt_2; omega), hJ0, trivial⟩
    · skip
      refine w_cne_f dX5_kindOf_9 (t := 14) rfl (by have := zt_10; omega) ?_
      refine w_ic dX5_kindOf_12 zi_0 ?_
      refine w_en dX5_kindOf_13 rfl ?_
      exact ⟨_, _, rfl, (by have := zt_0; omega), (by have := zt_0; omega), hJ0, trivial⟩
  · skip
    refine w_ceq_t dX5_kindOf_3 (t := 12) rfl (by have := zt_32; omega) ?_
    refine w_ic dX5_kindOf_12 zi_0 ?_
    refine w_en dX5_kindOf_13 rfl ?_
    exact ⟨_, _, rfl, (by have := zt_0; omega), (by have := zt_0; omega), hJ0, trivial⟩
set_option maxRecDepth 100000 in
theorem k_1284 {X : List Int32} {d N : Nat} {M0 : zM} (a0 : Int32) (ha00 : (0 : Int) ≤ a0.toInt) (ha01 : a0.toInt ≤ 255) (a1 : Int32) (a2 : Int32) (ha20 : (0 : Int) ≤ a2.toInt) (ha21 : a2.toInt ≤ 1599) (hN : N ≤ 600) (hB0 : zB N M0) : ZV X (d + 1) 1284 [.ref 2, .int a0, .int a1, .int a2] M0 (zRI N [(4, 6, 1000)] M0 (0) (1) (fun _ _ => True)) := by
  have hJ0 : zJ N [(4, 6, 1000)] M0 M0 := zJ_refl hB0
  refine ZV.of (ini := false) rfl (Nat.le_of_ble_eq_true rfl) (by decide +kernel) ?_
  have main : ∀ n : Nat,
      (∀ (M : zM) (v45_1 : Int32) (v45_2 : Int32) (v45_3 : Int32) (v45_4 : Int32) (v45_5 : Int32) (s45_0 : Int32) (s45_1 : Int32), zJ N [(4, 6, 1000)] M0 M → ((0 : Int) ≤ v45_1.toInt) → (v45_1.toInt ≤ 255) → ((-2147483648 : Int) ≤ v45_2.toInt) → (v45_2.toInt ≤ 2147483647) → ((0 : Int) ≤ v45_3.toInt) → (v45_3.toInt ≤ 1599) → ((0 : Int) ≤ v45_4.toInt) → (v45_4.toInt ≤ 1600) → ((0 : Int) ≤ v45_5.toInt) → (v45_5.toInt ≤ 1) → ((-2147483648 : Int) ≤ s45_0.toInt) → (s45_0.toInt ≤ 2147483647) → ((4 : Int) ≤ s45_1.toInt) → (s45_1.toInt ≤ 6) → 1 < (n : Int) → ZW X (d + 0) 5 false (some .boolean) cX5_lengthen (zRI N [(4, 6, 1000)] M0 (0) (1) (fun _ _ => True)) (45, [some (.ref 2), some (.int v45_1), some (.int v45_2), some (.int v45_3), some (.int v45_4), some (.int v45_5)], [.int s45_1, .int s45_0], M)) := by
    intro n
    induction n with
    | zero =>
      exact (fun M v45_1 v45_2 v45_3 v45_4 v45_5 s45_0 s45_1 hJ v45_10 v45_11 v45_20 v45_21 v45_30 v45_31 v45_40 v45_41 v45_50 v45_51 s45_00 s45_01 s45_10 s45_11 hn => absurd hn (by omega))
    | succ n ih =>
      have ih45 := ih
      · intro M v45_1 v45_2 v45_3 v45_4 v45_5 s45_0 s45_1 hJ v45_10 v45_11 v45_20 v45_21 v45_30 v45_31 v45_40 v45_41 v45_50 v45_51 s45_00 s45_01 s45_10 s45_11 hn
        rcases zcut s45_1.toInt s45_0.toInt with h1 | h1
        · skip
          refine w_cle_f dX5_lengthen_45 (t := 66) rfl (by omega) ?_
          refine w_lo dX5_lengthen_48 rfl rfl rfl rfl ?_
          refine w_gf dX5_lengthen_49 rfl hJ.1.1 zs_2 (zr_2_3 hJ.1) ?_
          refine w_lo dX5_lengthen_52 rfl rfl rfl rfl ?_
          refine w_ic dX5_lengthen_54 zi_1 ?_
          refine w_isi dX5_lengthen_55 hJ zs_4 (by omega) (by omega) zu_4 (by have := zt_1; omega) (by have := zt_1; omega) (zIR_a (by omega) (by omega)) ?_
          intro M2 hJ3 f4 hn5
          refine w_lo dX5_lengthen_56 rfl rfl rfl rfl ?_
          refine w_gf dX5_lengthen_57 rfl hJ3.1.1 zs_2 (zr_2_4 hJ3.1) ?_
          refine w_lo dX5_lengthen_60 rfl rfl rfl rfl ?_
          refine w_lo dX5_lengthen_62 rfl rfl rfl rfl ?_
          refine w_isi dX5_lengthen_63 hJ3 zs_5 (by omega) (by omega) zu_5 (zbot _) (ztop _) (zIR_a (by omega) (by omega)) ?_
          intro M6 hJ7 f8 hn9
          refine w_ic dX5_lengthen_64 zi_0 ?_
          refine w_en dX5_lengthen_65 rfl ?_
          exact ⟨_, _, rfl, (by have := zt_0; omega), (by have := zt_0; omega), hJ7, trivial⟩
        · skip
          refine w_cle_t dX5_lengthen_45 (t := 66) rfl (by omega) ?_
          refine w_lo dX5_lengthen_66 rfl rfl rfl rfl ?_
          rcases Int.decEq v45_5.toInt (0 : Int) with h10 | h10
          · skip
            refine w_ieq_f dX5_lengthen_68 (t := 96) rfl (by omega) ?_
            refine w_lo dX5_lengthen_71 rfl rfl rfl rfl ?_
            refine w_gf dX5_lengthen_72 rfl hJ.1.1 zs_2 (zr_2_4 hJ.1) ?_
            refine w_lo dX5_lengthen_75 rfl rfl rfl rfl ?_
            refine w_pu dX5_lengthen_77 rfl rfl ?_
            refine w_iai dX5_lengthen_78 hJ.1 zs_5 (by omega) (by omega) zu_5 ?_
            intro x14 f11 h12 h13
            refine w_lo dX5_lengthen_79 rfl rfl rfl rfl ?_
            refine w_bi dX5_lengthen_80 (c := 97) (by decide) ?_
            refine w_sub dX5_lengthen_82 (by have := zt_97; omega) ?_
            intro x15 h16
            have := zt_97
            refine w_ic dX5_lengthen_83 zi_1 ?_
            refine w_add dX5_lengthen_84 (by have := zt_1; omega) ?_
            intro x17 h18
            have := zt_1
            refine w_ic dX5_lengthen_85 zi_5 ?_
            refine w_lo dX5_lengthen_86 rfl rfl rfl rfl ?_
            refine w_ic dX5_lengthen_87 zi_1 ?_
            refine w_puI dX5_lengthen_88 rfl rfl ?_
            intro x19
            refine w_puI dX5_lengthen_89 rfl rfl ?_
            intro x20
            refine w_puI dX5_lengthen_90 rfl rfl ?_
            intro x21
            refine w_puI dX5_lengthen_91 rfl rfl ?_
            intro x22
            refine w_isi dX5_lengthen_92 hJ zs_5 (by omega) (by omega) zu_5 (zbot _) (ztop _) (zIR_a (by omega) (by omega)) ?_
            intro M23 hJ24 f25 hn26
            refine w_gt dX5_lengthen_93 (t := 118) rfl ?_
            refine w_ic dX5_lengthen_118 zi_1 ?_
            refine w_en dX5_lengthen_119 rfl ?_
            exact ⟨_, _, rfl, (by have := zt_1; omega), (by have := zt_1; omega), hJ24, trivial⟩
          · skip
            refine w_ieq_t dX5_lengthen_68 (t := 96) rfl (by omega) ?_
            refine w_lo dX5_lengthen_96 rfl rfl rfl rfl ?_
            refine w_gf dX5_lengthen_97 rfl hJ.1.1 zs_2 (zr_2_4 hJ.1) ?_
            refine w_lo dX5_lengthen_100 rfl rfl rfl rfl ?_
            refine w_bi dX5_lengthen_102 (c := 10) (by decide) ?_
            refine w_lo dX5_lengthen_104 rfl rfl rfl rfl ?_
            refine w_gf dX5_lengthen_105 rfl hJ.1.1 zs_2 (zr_2_4 hJ.1) ?_
            refine w_lo dX5_lengthen_108 rfl rfl rfl rfl ?_
            refine w_iai dX5_lengthen_110 hJ.1 zs_5 (by omega) (by omega) zu_5 ?_
            intro x30 f27 h28 h29
            refine w_puI dX5_lengthen_111 rfl rfl ?_
            intro x31
            refine w_lo dX5_lengthen_112 rfl rfl rfl rfl ?_
            refine w_puI dX5_lengthen_113 rfl rfl ?_
            intro x32
            refine w_bi dX5_lengthen_114 (c := 48) (by decide) ?_
            refine w_puI dX5_lengthen_116 rfl rfl ?_
            intro x33
            refine w_isi dX5_lengthen_117 hJ zs_5 (by omega) (by omega) zu_5 (zbot _) (ztop _) (zIR_a (by omega) (by omega)) ?_
            intro M34 hJ35 f36 hn37
            refine w_ic dX5_lengthen_118 zi_1 ?_
            refine w_en dX5_lengthen_119 rfl ?_
            exact ⟨_, _, rfl, (by have := zt_1; omega), (by have := zt_1; omega), hJ35, trivial⟩
  have ih45 := main 6
  show ZW _ _ _ _ _ _ _ (0, [some (.ref 2), some (.int a0), some (.int a1), some (.int a2), none, none], [], M0)
  refine w_lo dX5_lengthen_0 rfl rfl rfl rfl ?_
  refine w_gfi dX5_lengthen_1 rfl hJ0.1 zs_2 (Nat.le_of_ble_eq_true rfl) zo_2_6 ?_
  intro x38 f39 h40 h41
  refine w_ic dX5_lengthen_4 zi_1 ?_
  refine w_sub dX5_lengthen_5 (by have := zt_1; omega) ?_
  intro x42 h43
  have := zt_1
  refine w_lo (ml' := [some (.ref 2), some (.int a0), some (.int a1), some (.int a2), some (.int x42), none]) dX5_lengthen_6 rfl rfl rfl rfl ?_
  refine w_lo dX5_lengthen_8 rfl rfl rfl rfl ?_
  rcases zcut x42.toInt (0 : Int) with h44 | h44
  · skip
    refine w_ige_f dX5_lengthen_10 (t := 15) rfl (by omega) ?_
    refine w_ic dX5_lengthen_13 zi_0 ?_
    refine w_en dX5_lengthen_14 rfl ?_
    exact ⟨_, _, rfl, (by have := zt_0; omega), (by have := zt_0; omega), hJ0, trivial⟩
  · skip
    refine w_ige_t dX5_lengthen_10 (t := 15) rfl (by omega) ?_
    refine w_lo dX5_lengthen_15 rfl rfl rfl rfl ?_
    refine w_gf dX5_lengthen_16 rfl hJ0.1.1 zs_2 (zr_2_3 hJ0.1) ?_
    refine w_lo dX5_lengthen_19 rfl rfl rfl rfl ?_
    refine w_iai dX5_lengthen_21 hJ0.1 zs_4 (by omega) (by omega) zu_4 ?_
    intro x48 f45 h46 h47
    refine w_ic dX5_lengthen_22 zi_2 ?_
    rcases Int.decEq x48.toInt (2 : Int) with h49 | h49
    · skip
      refine w_cne_t dX5_lengthen_23 (t := 30) rfl (by have := zt_2; omega) ?_
      refine w_ic dX5_lengthen_30 zi_0 ?_
      refine w_lo (ml' := [some (.ref 2), some (.int a0), some (.int a1), some (.int a2), some (.int x42), some (.int 0)]) dX5_lengthen_31 rfl rfl rfl rfl ?_
      refine w_lo dX5_lengthen_33 rfl rfl rfl rfl ?_
      refine w_lo dX5_lengthen_34 rfl rfl rfl rfl ?_
      refine w_ieq_t dX5_lengthen_36 (t := 44) rfl (by have := zt_0; omega) ?_
      refine w_ic dX5_lengthen_44 zi_4 ?_
      exact ih45 M0 a0 a1 a2 x42 0 a1 4 hJ0 (by omega) (by omega) (zbot _) (ztop _) (by omega) (by omega) (by omega) (by omega) (by have := zt_0; omega) (by have := zt_0; omega) (zbot _) (ztop _) (by have := zt_4; omega) (by have := zt_4; omega) (by have := zt_0; have := zt_4; omega)
    · skip
      refine w_cne_f dX5_lengthen_23 (t := 30) rfl (by have := zt_2; omega) ?_
      refine w_ic dX5_lengthen_26 zi_1 ?_
      refine w_gt dX5_lengthen_27 (t := 31) rfl ?_
      refine w_lo (ml' := [some (.ref 2), some (.int a0), some (.int a1), some (.int a2), some (.int x42), some (.int 1)]) dX5_lengthen_31 rfl rfl rfl rfl ?_
      refine w_lo dX5_lengthen_33 rfl rfl rfl rfl ?_
      refine w_lo dX5_lengthen_34 rfl rfl rfl rfl ?_
      refine w_ieq_f dX5_lengthen_36 (t := 44) rfl (by have := zt_1; omega) ?_
      refine w_bi dX5_lengthen_39 (c := 6) (by decide) ?_
      refine w_gt dX5_lengthen_41 (t := 45) rfl ?_
      exact ih45 M0 a0 a1 a2 x42 1 a1 6 hJ0 (by omega) (by omega) (zbot _) (ztop _) (by omega) (by omega) (by omega) (by omega) (by have := zt_1; omega) (by have := zt_1; omega) (zbot _) (ztop _) (by have := zt_6; omega) (by have := zt_6; omega) (by have := zt_1; have := zt_6; omega)
set_option maxRecDepth 100000 in
theorem k_1285 {X : List Int32} {d N : Nat} {M0 : zM} (a0 : Int32) (ha00 : (0 : Int) ≤ a0.toInt) (ha01 : a0.toInt ≤ 5) (a1 : Int32) (ha10 : (-96 : Int) ≤ a1.toInt) (ha11 : a1.toInt ≤ 1600) (a2 : Int32) (ha20 : (0 : Int) ≤ a2.toInt) (ha21 : a2.toInt ≤ 1600) (hN : N ≤ 600) (hB0 : zB N M0) : ZV X (d + 1) 1285 [.ref 2, .int a0, .int a1, .int a2] M0 (zRV N [(4, 7, 1000), (2, 3, 6)] M0 (fun _ => True)) := by
  have hJ0 : zJ N [(4, 7, 1000), (2, 3, 6)] M0 M0 := zJ_refl hB0
  refine ZV.of (ini := false) rfl (Nat.le_of_ble_eq_true rfl) (by decide +kernel) ?_
  show ZW _ _ _ _ _ _ _ (0, [some (.ref 2), some (.int a0), some (.int a1), some (.int a2)], [], M0)
  refine w_lo dX5_add_0 rfl rfl rfl rfl ?_
  refine w_gfi dX5_add_1 rfl hJ0.1 zs_2 (Nat.le_of_ble_eq_true rfl) zo_2_6 ?_
  intro x1 f2 h3 h4
  refine w_si dX5_add_4 (c := 1600) (by decide) ?_
  rcases zcut (1600 : Int) x1.toInt with h5 | h5
  · skip
    refine w_cgt_t dX5_add_7 (t := 50) rfl (by have := zt_1600; omega) ?_
    refine w_en dX5_add_50 rfl ?_
    exact ⟨_, rfl, hJ0, trivial⟩
  · skip
    refine w_cgt_f dX5_add_7 (t := 50) rfl (by have := zt_1600; omega) ?_
    refine w_lo dX5_add_10 rfl rfl rfl rfl ?_
    refine w_gf dX5_add_11 rfl hJ0.1.1 zs_2 (zr_2_3 hJ0.1) ?_
    refine w_lo dX5_add_14 rfl rfl rfl rfl ?_
    refine w_gf dX5_add_15 rfl hJ0.1.1 zs_2 f2 ?_
    refine w_lo dX5_add_18 rfl rfl rfl rfl ?_
    refine w_isi dX5_add_19 hJ0 zs_4 (by omega) (by omega) zu_4 (by omega) (by omega) (zIR_a (by omega) (by omega)) ?_
    intro M6 hJ7 f8 hn9
    refine w_lo dX5_add_20 rfl rfl rfl rfl ?_
    refine w_gf dX5_add_21 rfl hJ7.1.1 zs_2 (zr_2_4 hJ7.1) ?_
    refine w_lo dX5_add_24 rfl rfl rfl rfl ?_
    have f10 := (hn9 (2) 6 (Or.inl (by omega))).trans (f2)
    refine w_gf dX5_add_25 rfl hJ7.1.1 zs_2 f10 ?_
    refine w_lo dX5_add_28 rfl rfl rfl rfl ?_
    refine w_isi dX5_add_29 hJ7 zs_5 (by omega) (by omega) zu_5 (zbot _) (ztop _) (zIR_a (by omega) (by omega)) ?_
    intro M11 hJ12 f13 hn14
    refine w_lo dX5_add_30 rfl rfl rfl rfl ?_
    refine w_gf dX5_add_31 rfl hJ12.1.1 zs_2 (zr_2_5 hJ12.1) ?_
    refine w_lo dX5_add_34 rfl rfl rfl rfl ?_
    have f15 := (hn14 (2) 6 (Or.inl (by omega))).trans (f10)
    refine w_gf dX5_add_35 rfl hJ12.1.1 zs_2 f15 ?_
    refine w_lo dX5_add_38 rfl rfl rfl rfl ?_
    refine w_isi dX5_add_39 hJ12 zs_6 (by omega) (by omega) zu_6 (by omega) (by omega) (zIR_a (by omega) (by omega)) ?_
    intro M16 hJ17 f18 hn19
    refine w_lo dX5_add_40 rfl rfl rfl rfl ?_
    refine w_pu dX5_add_41 rfl rfl ?_
    have f20 := (hn19 (2) 6 (Or.inl (by omega))).trans (f15)
    refine w_gf dX5_add_42 rfl hJ17.1.1 zs_2 f20 ?_
    refine w_ic dX5_add_45 zi_1 ?_
    refine w_add dX5_add_46 (by have := zt_1; omega) ?_
    intro x21 h22
    have := zt_1
    refine w_pfi dX5_add_47 rfl hJ17 zs_2 (Nat.le_of_ble_eq_true rfl) zo_2_6 (by omega) (by omega) (zIR_s (zIR_k (by omega) (by omega))) rfl rfl rfl ?_
    intro M23 hJ24 f25 hn26
    refine w_en dX5_add_50 rfl ?_
    exact ⟨_, rfl, hJ24, trivial⟩
set_option maxRecDepth 100000 in
theorem k_1282 {X : List Int32} {d N : Nat} {M0 : zM} (a1 : Int32) (ha10 : (0 : Int) ≤ a1.toInt) (ha11 : a1.toInt ≤ 1600) (hN : N ≤ 600) (hB0 : zB N M0) : ZV X (d + 6) 1282 [.ref 2, .ref 1, .int a1] M0 (zRV N [(4, 7, 1000), (2, 3, 6)] M0 (fun _ => True)) := by
  have hJ0 : zJ N [(4, 7, 1000), (2, 3, 6)] M0 M0 := zJ_refl hB0
  refine ZV.of (ini := false) rfl (Nat.le_of_ble_eq_true rfl) (by decide +kernel) ?_
  have main : ∀ n : Nat,
      (∀ (M : zM) (v13_2 : Int32) (v13_3 : Int32) (v13_4 : Int32) (v13_5 : Int32) (o13_6 : Option Value) (o13_7 : Option Value) (o13_8 : Option Value), zJ N [(4, 7, 1000), (2, 3, 6)] M0 M → ((0 : Int) ≤ v13_2.toInt) → (v13_2.toInt ≤ 1600) → ((0 : Int) ≤ v13_3.toInt) → (v13_3.toInt ≤ 5) → ((-2147483648 : Int) ≤ v13_4.toInt) → (v13_4.toInt ≤ 2147483647) → ((0 : Int) ≤ v13_5.toInt) → (v13_5.toInt ≤ 1600) → 6 * (1600 - v13_5.toInt) + 4 < (n : Int) → ZW X (d + 5) 5 false none cX5_scan (zRV N [(4, 7, 1000), (2, 3, 6)] M0 (fun _ => True)) (13, [some (.ref 2), some (.ref 1), some (.int v13_2), some (.int v13_3), some (.int v13_4), some (.int v13_5), o13_6, o13_7, o13_8], [], M)) ∧
      (∀ (M : zM) (v51_2 : Int32) (v51_3 : Int32) (v51_4 : Int32) (v51_5 : Int32) (v51_6 : Int32) (v51_7 : Int32) (o51_8 : Option Value), zJ N [(4, 7, 1000), (2, 3, 6)] M0 M → ((1 : Int) ≤ v51_2.toInt) → (v51_2.toInt ≤ 1600) → ((0 : Int) ≤ v51_3.toInt) → (v51_3.toInt ≤ 5) → ((-2147483648 : Int) ≤ v51_4.toInt) → (v51_4.toInt ≤ 2147483647) → ((0 : Int) ≤ v51_5.toInt) → (v51_5.toInt ≤ 1599) → ((0 : Int) ≤ v51_6.toInt) → (v51_6.toInt ≤ 255) → ((2 : Int) ≤ v51_7.toInt) → (v51_7.toInt ≤ 4) → 6 * (1600 - v51_5.toInt) + 3 < (n : Int) → ZW X (d + 5) 5 false none cX5_scan (zRV N [(4, 7, 1000), (2, 3, 6)] M0 (fun _ => True)) (51, [some (.ref 2), some (.ref 1), some (.int v51_2), some (.int v51_3), some (.int v51_4), some (.int v51_5), some (.int v51_6), some (.int v51_7), o51_8], [], M)) ∧
      (∀ (M : zM) (v86_2 : Int32) (v86_3 : Int32) (v86_4 : Int32) (v86_5 : Int32) (v86_6 : Int32) (v86_7 : Int32) (v86_8 : Int32), zJ N [(4, 7, 1000), (2, 3, 6)] M0 M → ((1 : Int) ≤ v86_2.toInt) → (v86_2.toInt ≤ 1600) → ((0 : Int) ≤ v86_3.toInt) → (v86_3.toInt ≤ 5) → ((-2147483648 : Int) ≤ v86_4.toInt) → (v86_4.toInt ≤ 2147483647) → ((0 : Int) ≤ v86_5.toInt) → (v86_5.toInt ≤ 1599) → ((0 : Int) ≤ v86_6.toInt) → (v86_6.toInt ≤ 255) → ((0 : Int) ≤ v86_7.toInt) → (v86_7.toInt ≤ 5) → ((0 : Int) ≤ v86_8.toInt) → (v86_8.toInt ≤ 1) → 6 * (1600 - v86_5.toInt) + 2 < (n : Int) → ZW X (d + 5) 5 false none cX5_scan (zRV N [(4, 7, 1000), (2, 3, 6)] M0 (fun _ => True)) (86, [some (.ref 2), some (.ref 1), some (.int v86_2), some (.int v86_3), some (.int v86_4), some (.int v86_5), some (.int v86_6), some (.int v86_7), some (.int v86_8)], [], M)) ∧
      (∀ (M : zM) (v111_2 : Int32) (u111_3 : Int32) (v111_4 : Int32) (v111_5 : Int32) (v111_6 : Int32) (v111_7 : Int32) (v111_8 : Int32), zJ N [(4, 7, 1000), (2, 3, 6)] M0 M → ((1 : Int) ≤ v111_2.toInt) → (v111_2.toInt ≤ 1600) → ((-2147483648 : Int) ≤ v111_4.toInt) → (v111_4.toInt ≤ 2147483647) → ((0 : Int) ≤ v111_5.toInt) → (v111_5.toInt ≤ 1599) → ((0 : Int) ≤ v111_6.toInt) → (v111_6.toInt ≤ 255) → ((0 : Int) ≤ v111_7.toInt) → (v111_7.toInt ≤ 5) → ((0 : Int) ≤ v111_8.toInt) → (v111_8.toInt ≤ 1) → 6 * (1600 - v111_5.toInt) + 1 < (n : Int) → ZW X (d + 5) 5 false none cX5_scan (zRV N [(4, 7, 1000), (2, 3, 6)] M0 (fun _ => True)) (111, [some (.ref 2), some (.ref 1), some (.int v111_2), some (.int u111_3), some (.int v111_4), some (.int v111_5), some (.int v111_6), some (.int v111_7), some (.int v111_8)], [], M)) := by
    intro n
    induction n with
    | zero =>
      exact ⟨(fun M v13_2 v13_3 v13_4 v13_5 o13_6 o13_7 o13_8 hJ v13_20 v13_21 v13_30 v13_31 v13_40 v13_41 v13_50 v13_51 hn => absurd hn (by omega)), (fun M v51_2 v51_3 v51_4 v51_5 v51_6 v51_7 o51_8 hJ v51_20 v51_21 v51_30 v51_31 v51_40 v51_41 v51_50 v51_51 v51_60 v51_61 v51_70 v51_71 hn => absurd hn (by omega)), (fun M v86_2 v86_3 v86_4 v86_5 v86_6 v86_7 v86_8 hJ v86_20 v86_21 v86_30 v86_31 v86_40 v86_41 v86_50 v86_51 v86_60 v86_61 v86_70 v86_71 v86_80 v86_81 hn => absurd hn (by omega)), (fun M v111_2 u111_3 v111_4 v111_5 v111_6 v111_7 v111_8 hJ v111_20 v111_21 v111_40 v111_41 v111_50 v111_51 v111_60 v111_61 v111_70 v111_71 v111_80 v111_81 hn => absurd hn (by omega))⟩
    | succ n ih =>
      obtain ⟨ih13, ih51, ih86, ih111⟩ := ih
      refine ⟨?_, ?_, ?_, ?_⟩
      · intro M v13_2 v13_3 v13_4 v13_5 o13_6 o13_7 o13_8 hJ v13_20 v13_21 v13_30 v13_31 v13_40 v13_41 v13_50 v13_51 hn
        refine w_lo dX5_scan_13 rfl rfl rfl rfl ?_
        refine w_lo dX5_scan_15 rfl rfl rfl rfl ?_
        rcases zcut v13_5.toInt v13_2.toInt with h1 | h1
        · skip
          refine w_cge_f dX5_scan_16 (t := 177) rfl (by omega) ?_
          refine w_lo dX5_scan_19 rfl rfl rfl rfl ?_
          refine w_lo dX5_scan_21 rfl rfl rfl rfl ?_
          refine w_al dX5_scan_22 hJ.1.1 zs_1 (c := 1600) rfl ⟨Nat.le_of_ble_eq_true rfl, Nat.le_of_ble_eq_true rfl⟩ ?_
          refine w_cge_f dX5_scan_23 (t := 177) rfl (by have := zt_1600; omega) ?_
          refine w_lo dX5_scan_26 rfl rfl rfl rfl ?_
          refine w_lo dX5_scan_27 rfl rfl rfl rfl ?_
          refine w_iai dX5_scan_29 hJ.1 zs_1 (by omega) (by omega) zu_1 ?_
          intro x5 f2 h3 h4
          refine w_lo (ml' := [some (.ref 2), some (.ref 1), some (.int v13_2), some (.int v13_3), some (.int v13_4), some (.int v13_5), some (.int x5), o13_7, o13_8]) dX5_scan_30 rfl rfl rfl rfl ?_
          refine w_lo dX5_scan_32 rfl rfl rfl rfl ?_
          refine w_ss dX5_scan_34 rfl rfl (As := [.int x5]) rfl rfl (Nat.le_of_ble_eq_true rfl) ?_
          refine ZV.imp (k_1283 x5 (by omega) (by omega) hN hJ.1) ?_
          rintro _ ⟨x9, M6, rfl, h10, h11, hJ7, hq8⟩
          have hJ12 := zJ_trans hJ hJ7 zSub_nil
          show ZW _ _ _ _ _ _ _ (37, [some (.ref 2), some (.ref 1), some (.int v13_2), some (.int v13_3), some (.int v13_4), some (.int v13_5), some (.int x5), o13_7, o13_8], [.int x9], M6)
          refine w_lo (ml' := [some (.ref 2), some (.ref 1), some (.int v13_2), some (.int v13_3), some (.int v13_4), some (.int v13_5), some (.int x5), some (.int x9), o13_8]) dX5_scan_37 rfl rfl rfl rfl ?_
          refine w_lo dX5_scan_39 rfl rfl rfl rfl ?_
          refine w_ic dX5_scan_41 zi_2 ?_
          rcases Int.decEq x9.toInt (2 : Int) with h13 | h13
          · skip
            refine w_ceq_f dX5_scan_42 (t := 51) rfl (by have := zt_2; omega) ?_
            refine w_lo dX5_scan_45 rfl rfl rfl rfl ?_
            refine w_ic dX5_scan_47 zi_4 ?_
            rcases Int.decEq x9.toInt (4 : Int) with h14 | h14
            · skip
              refine w_cne_t dX5_scan_48 (t := 55) rfl (by have := zt_4; omega) ?_
              refine w_ic dX5_scan_55 zi_0 ?_
              refine w_lo (ml' := [some (.ref 2), some (.ref 1), some (.int v13_2), some (.int v13_3), some (.int v13_4), some (.int v13_5), some (.int x5), some (.int x9), some (.int 0)]) dX5_scan_56 rfl rfl rfl rfl ?_
              refine w_lo dX5_scan_58 rfl rfl rfl rfl ?_
              refine w_ieq_t dX5_scan_60 (t := 86) rfl (by have := zt_0; omega) ?_
              exact ih86 M6 v13_2 v13_3 v13_4 v13_5 x5 x9 0 hJ12 (by omega) (by omega) (by omega) (by omega) (zbot _) (ztop _) (by omega) (by omega) (by omega) (by omega) (by omega) (by omega) (by have := zt_0; omega) (by have := zt_0; omega) (by have := zt_0; omega)
            · skip
              refine w_cne_f dX5_scan_48 (t := 55) rfl (by have := zt_4; omega) ?_
              exact ih51 M6 v13_2 v13_3 v13_4 v13_5 x5 x9 o13_8 hJ12 (by omega) (by omega) (by omega) (by omega) (zbot _) (ztop _) (by omega) (by omega) (by omega) (by omega) (by omega) (by omega) (by omega)
          · skip
            refine w_ceq_t dX5_scan_42 (t := 51) rfl (by have := zt_2; omega) ?_
            exact ih51 M6 v13_2 v13_3 v13_4 v13_5 x5 x9 o13_8 hJ12 (by omega) (by omega) (by omega) (by omega) (zbot _) (ztop _) (by omega) (by omega) (by omega) (by omega) (by omega) (by omega) (by omega)
        · skip
          refine w_cge_t dX5_scan_16 (t := 177) rfl (by omega) ?_
          refine w_lo dX5_scan_177 rfl rfl rfl rfl ?_
          refine w_ic dX5_scan_178 zi_0 ?_
          refine w_lo dX5_scan_179 rfl rfl rfl rfl ?_
          refine w_lo dX5_scan_180 rfl rfl rfl rfl ?_
          refine w_iv dX5_scan_181 rfl rfl (As := [.int 0, .int v13_2, .int v13_2]) rfl rfl hJ.1.1 zs_2 (Nat.le_of_ble_eq_true rfl) ?_
          refine ZV.imp (k_1285 0 (by have := zt_0; omega) (by have := zt_0; omega) v13_2 (by omega) (by omega) v13_2 (by omega) (by omega) hN hJ.1) ?_
          rintro _ ⟨M15, rfl, hJ16, hq17⟩
          have hJ18 := zJ_trans hJ hJ16 (zSub_cons (fun _ _ h h' hk => zIR_a (by omega) (by omega)) (zSub_cons (fun _ _ h h' hk => zIR_s (zIR_e (by omega) (by omega) hk)) zSub_nil))
          show ZW _ _ _ _ _ _ _ (184, [some (.ref 2), some (.ref 1), some (.int v13_2), some (.int v13_3), some (.int v13_4), some (.int v13_5), o13_6, o13_7, o13_8], [], M15)
          refine w_en dX5_scan_184 rfl ?_
          exact ⟨_, rfl, hJ18, trivial⟩
      · intro M v51_2 v51_3 v51_4 v51_5 v51_6 v51_7 o51_8 hJ v51_20 v51_21 v51_30 v51_31 v51_40 v51_41 v51_50 v51_51 v51_60 v51_61 v51_70 v51_71 hn
        refine w_ic dX5_scan_51 zi_1 ?_
        refine w_gt dX5_scan_52 (t := 56) rfl ?_
        refine w_lo (ml' := [some (.ref 2), some (.ref 1), some (.int v51_2), some (.int v51_3), some (.int v51_4), some (.int v51_5), some (.int v51_6), some (.int v51_7), some (.int 1)]) dX5_scan_56 rfl rfl rfl rfl ?_
        refine w_lo dX5_scan_58 rfl rfl rfl rfl ?_
        refine w_ieq_f dX5_scan_60 (t := 86) rfl (by have := zt_1; omega) ?_
        refine w_lo dX5_scan_63 rfl rfl rfl rfl ?_
        refine w_lo dX5_scan_65 rfl rfl rfl rfl ?_
        rcases Int.decEq v51_7.toInt v51_3.toInt with h19 | h19
        · skip
          refine w_cne_t dX5_scan_66 (t := 86) rfl (by omega) ?_
          exact ih86 M v51_2 v51_3 v51_4 v51_5 v51_6 v51_7 1 hJ (by omega) (by omega) (by omega) (by omega) (zbot _) (ztop _) (by omega) (by omega) (by omega) (by omega) (by omega) (by omega) (by have := zt_1; omega) (by have := zt_1; omega) (by have := zt_1; omega)
        · skip
          refine w_cne_f dX5_scan_66 (t := 86) rfl (by omega) ?_
          refine w_incT (kk := 4) dX5_scan_69 rfl ?_
          intro x20
          refine ⟨_, rfl, ?_⟩
          show ZW _ _ _ _ _ _ _ (72, [some (.ref 2), some (.ref 1), some (.int v51_2), some (.int v51_3), some (.int x20), some (.int v51_5), some (.int v51_6), some (.int v51_7), some (.int 1)], [], M)
          refine w_lo dX5_scan_72 rfl rfl rfl rfl ?_
          refine w_lo dX5_scan_73 rfl rfl rfl rfl ?_
          refine w_lo dX5_scan_75 rfl rfl rfl rfl ?_
          refine w_lo dX5_scan_77 rfl rfl rfl rfl ?_
          refine w_iv dX5_scan_79 rfl rfl (As := [.int v51_6, .int x20, .int v51_5]) rfl rfl hJ.1.1 zs_2 (Nat.le_of_ble_eq_true rfl) ?_
          refine ZV.imp (k_1284 v51_6 (by omega) (by omega) x20 v51_5 (by omega) (by omega) hN hJ.1) ?_
          rintro _ ⟨x25, M22, rfl, h26, h27, hJ23, hq24⟩
          have hJ28 := zJ_trans hJ hJ23 (zSub_cons (fun _ _ h h' hk => zIR_a (by omega) (by omega)) zSub_nil)
          show ZW _ _ _ _ _ _ _ (82, [some (.ref 2), some (.ref 1), some (.int v51_2), some (.int v51_3), some (.int x20), some (.int v51_5), some (.int v51_6), some (.int v51_7), some (.int 1)], [.int x25], M22)
          rcases Int.decEq x25.toInt (0 : Int) with h29 | h29
          · skip
            refine w_ine_t dX5_scan_82 (t := 159) rfl (by omega) ?_
            refine w_lo dX5_scan_159 rfl rfl rfl rfl ?_
            refine w_ieq_f dX5_scan_161 (t := 169) rfl (by have := zt_1; omega) ?_
            refine w_lo dX5_scan_164 rfl rfl rfl rfl ?_
            refine w_gt dX5_scan_166 (t := 170) rfl ?_
            refine w_lo (ml' := [some (.ref 2), some (.ref 1), some (.int v51_2), some (.int v51_7), some (.int x20), some (.int v51_5), some (.int v51_6), some (.int v51_7), some (.int 1)]) dX5_scan_170 rfl rfl rfl rfl ?_
            refine w_inc (kk := 5) dX5_scan_171 rfl (m := 1) (by decide) (by omega) ?_
            intro x30 h31
            refine ⟨_, rfl, ?_⟩
            show ZW _ _ _ _ _ _ _ (174, [some (.ref 2), some (.ref 1), some (.int v51_2), some (.int v51_7), some (.int x20), some (.int x30), some (.int v51_6), some (.int v51_7), some (.int 1)], [], M22)
            refine w_gt dX5_scan_174 (t := 13) rfl ?_
            exact ih13 M22 v51_2 v51_7 x20 x30 (some (.int v51_6)) (some (.int v51_7)) (some (.int 1)) hJ28 (by omega) (by omega) (by omega) (by omega) (zbot _) (ztop _) (by omega) (by omega) (by have := zt_1; omega)
          · skip
            refine w_ine_f dX5_scan_82 (t := 159) rfl (by omega) ?_
            refine w_en dX5_scan_85 rfl ?_
            exact ⟨_, rfl, hJ28, trivial⟩
      · intro M v86_2 v86_3 v86_4 v86_5 v86_6 v86_7 v86_8 hJ v86_20 v86_21 v86_30 v86_31 v86_40 v86_41 v86_50 v86_51 v86_60 v86_61 v86_70 v86_71 v86_80 v86_81 hn
        refine w_lo dX5_scan_86 rfl rfl rfl rfl ?_
        refine w_ic dX5_scan_88 zi_1 ?_
        rcases Int.decEq v86_7.toInt (1 : Int) with h32 | h32
        · skip
          refine w_ceq_f dX5_scan_89 (t := 101) rfl (by have := zt_1; omega) ?_
          refine w_lo dX5_scan_92 rfl rfl rfl rfl ?_
          rcases Int.decEq v86_8.toInt (0 : Int) with h33 | h33
          · skip
            refine w_ieq_f dX5_scan_94 (t := 111) rfl (by omega) ?_
            refine w_lo dX5_scan_97 rfl rfl rfl rfl ?_
            rcases Int.decEq v86_3.toInt (0 : Int) with h34 | h34
            · skip
              refine w_ieq_f dX5_scan_98 (t := 111) rfl (by omega) ?_
              refine w_lo dX5_scan_101 rfl rfl rfl rfl ?_
              refine w_ic dX5_scan_102 zi_1 ?_
              refine w_lo dX5_scan_103 rfl rfl rfl rfl ?_
              refine w_lo dX5_scan_105 rfl rfl rfl rfl ?_
              refine w_iv dX5_scan_107 rfl rfl (As := [.int 1, .int v86_5, .int v86_5]) rfl rfl hJ.1.1 zs_2 (Nat.le_of_ble_eq_true rfl) ?_
              refine ZV.imp (k_1285 1 (by have := zt_1; omega) (by have := zt_1; omega) v86_5 (by omega) (by omega) v86_5 (by omega) (by omega) hN hJ.1) ?_
              rintro _ ⟨M35, rfl, hJ36, hq37⟩
              have hJ38 := zJ_trans hJ hJ36 (zSub_cons (fun _ _ h h' hk => zIR_a (by omega) (by omega)) (zSub_cons (fun _ _ h h' hk => zIR_s (zIR_e (by omega) (by omega) hk)) zSub_nil))
              show ZW _ _ _ _ _ _ _ (110, [some (.ref 2), some (.ref 1), some (.int v86_2), some (.int v86_3), some (.int v86_4), some (.int v86_5), some (.int v86_6), some (.int v86_7), some (.int v86_8)], [], M35)
              refine w_en dX5_scan_110 rfl ?_
              exact ⟨_, rfl, hJ38, trivial⟩
            · skip
              refine w_ieq_t dX5_scan_98 (t := 111) rfl (by omega) ?_
              exact ih111 M v86_2 v86_3 v86_4 v86_5 v86_6 v86_7 v86_8 hJ (by omega) (by omega) (zbot _) (ztop _) (by omega) (by omega) (by omega) (by omega) (by omega) (by omega) (by omega) (by omega) (by omega)
          · skip
            refine w_ieq_t dX5_scan_94 (t := 111) rfl (by omega) ?_
            exact ih111 M v86_2 v86_3 v86_4 v86_5 v86_6 v86_7 v86_8 hJ (by omega) (by omega) (zbot _) (ztop _) (by omega) (by omega) (by omega) (by omega) (by omega) (by omega) (by omega) (by omega) (by omega)
        · skip
          refine w_ceq_t dX5_scan_89 (t := 101) rfl (by have := zt_1; omega) ?_
          refine w_lo dX5_scan_101 rfl rfl rfl rfl ?_
          refine w_ic dX5_scan_102 zi_1 ?_
          refine w_lo dX5_scan_103 rfl rfl rfl rfl ?_
          refine w_lo dX5_scan_105 rfl rfl rfl rfl ?_
          refine w_iv dX5_scan_107 rfl rfl (As := [.int 1, .int v86_5, .int v86_5]) rfl rfl hJ.1.1 zs_2 (Nat.le_of_ble_eq_true rfl) ?_
          refine ZV.imp (k_1285 1 (by have := zt_1; omega) (by have := zt_1; omega) v86_5 (by omega) (by omega) v86_5 (by omega) (by omega) hN hJ.1) ?_
          rintro _ ⟨M39, rfl, hJ40, hq41⟩
          have hJ42 := zJ_trans hJ hJ40 (zSub_cons (fun _ _ h h' hk => zIR_a (by omega) (by omega)) (zSub_cons (fun _ _ h h' hk => zIR_s (zIR_e (by omega) (by omega) hk)) zSub_nil))
          show ZW _ _ _ _ _ _ _ (110, [some (.ref 2), some (.ref 1), some (.int v86_2), some (.int v86_3), some (.int v86_4), some (.int v86_5), some (.int v86_6), some (.int v86_7), some (.int v86_8)], [], M39)
          refine w_en dX5_scan_110 rfl ?_
          exact ⟨_, rfl, hJ42, trivial⟩
      · intro M v111_2 u111_3 v111_4 v111_5 v111_6 v111_7 v111_8 hJ v111_20 v111_21 v111_40 v111_41 v111_50 v111_51 v111_60 v111_61 v111_70 v111_71 v111_80 v111_81 hn
        refine w_lo dX5_scan_111 rfl rfl rfl rfl ?_
        rcases Int.decEq v111_7.toInt (0 : Int) with h43 | h43
        · skip
          refine w_ieq_f dX5_scan_113 (t := 159) rfl (by omega) ?_
          refine w_lo dX5_scan_116 rfl rfl rfl rfl ?_
          refine w_lo dX5_scan_117 rfl rfl rfl rfl ?_
          refine w_lo dX5_scan_119 rfl rfl rfl rfl ?_
          refine w_ic dX5_scan_121 zi_2 ?_
          rcases Int.decEq v111_7.toInt (2 : Int) with h44 | h44
          · skip
            refine w_cne_t dX5_scan_122 (t := 135) rfl (by have := zt_2; omega) ?_
            refine w_lo dX5_scan_135 rfl rfl rfl rfl ?_
            refine w_ic dX5_scan_137 zi_4 ?_
            rcases Int.decEq v111_7.toInt (4 : Int) with h45 | h45
            · skip
              refine w_cne_t dX5_scan_138 (t := 149) rfl (by have := zt_4; omega) ?_
              refine w_lo dX5_scan_149 rfl rfl rfl rfl ?_
              refine w_lo dX5_scan_151 rfl rfl rfl rfl ?_
              refine w_iv dX5_scan_153 rfl rfl (As := [.int v111_7, .int v111_6, .int v111_5]) rfl rfl hJ.1.1 zs_2 (Nat.le_of_ble_eq_true rfl) ?_
              refine ZV.imp (k_1285 v111_7 (by omega) (by omega) v111_6 (by omega) (by omega) v111_5 (by omega) (by omega) hN hJ.1) ?_
              rintro _ ⟨M46, rfl, hJ47, hq48⟩
              have hJ49 := zJ_trans hJ hJ47 (zSub_cons (fun _ _ h h' hk => zIR_a (by omega) (by omega)) (zSub_cons (fun _ _ h h' hk => zIR_s (zIR_e (by omega) (by omega) hk)) zSub_nil))
              show ZW _ _ _ _ _ _ _ (156, [some (.ref 2), some (.ref 1), some (.int v111_2), some (.int u111_3), some (.int v111_4), some (.int v111_5), some (.int v111_6), some (.int v111_7), some (.int v111_8)], [], M46)
              refine w_ic dX5_scan_156 zi_1 ?_
              refine w_lo (ml' := [some (.ref 2), some (.ref 1), some (.int v111_2), some (.int u111_3), some (.int 1), some (.int v111_5), some (.int v111_6), some (.int v111_7), some (.int v111_8)]) dX5_scan_157 rfl rfl rfl rfl ?_
              refine w_lo dX5_scan_159 rfl rfl rfl rfl ?_
              rcases Int.decEq v111_8.toInt (0 : Int) with h50 | h50
              · skip
                refine w_ieq_f dX5_scan_161 (t := 169) rfl (by omega) ?_
                refine w_lo dX5_scan_164 rfl rfl rfl rfl ?_
                refine w_gt dX5_scan_166 (t := 170) rfl ?_
                refine w_lo (ml' := [some (.ref 2), some (.ref 1), some (.int v111_2), some (.int v111_7), some (.int 1), some (.int v111_5), some (.int v111_6), some (.int v111_7), some (.int v111_8)]) dX5_scan_170 rfl rfl rfl rfl ?_
                refine w_inc (kk := 5) dX5_scan_171 rfl (m := 1) (by decide) (by omega) ?_
                intro x51 h52
                refine ⟨_, rfl, ?_⟩
                show ZW _ _ _ _ _ _ _ (174, [some (.ref 2), some (.ref 1), some (.int v111_2), some (.int v111_7), some (.int 1), some (.int x51), some (.int v111_6), some (.int v111_7), some (.int v111_8)], [], M46)
                refine w_gt dX5_scan_174 (t := 13) rfl ?_
                exact ih13 M46 v111_2 v111_7 1 x51 (some (.int v111_6)) (some (.int v111_7)) (some (.int v111_8)) hJ49 (by omega) (by omega) (by omega) (by omega) (zbot _) (ztop _) (by omega) (by omega) (by have := zt_1; omega)
              · skip
                refine w_ieq_t dX5_scan_161 (t := 169) rfl (by omega) ?_
                refine w_ic dX5_scan_169 zi_0 ?_
                refine w_lo (ml' := [some (.ref 2), some (.ref 1), some (.int v111_2), some (.int 0), some (.int 1), some (.int v111_5), some (.int v111_6), some (.int v111_7), some (.int v111_8)]) dX5_scan_170 rfl rfl rfl rfl ?_
                refine w_inc (kk := 5) dX5_scan_171 rfl (m := 1) (by decide) (by omega) ?_
                intro x53 h54
                refine ⟨_, rfl, ?_⟩
                show ZW _ _ _ _ _ _ _ (174, [some (.ref 2), some (.ref 1), some (.int v111_2), some (.int 0), some (.int 1), some (.int x53), some (.int v111_6), some (.int v111_7), some (.int v111_8)], [], M46)
                refine w_gt dX5_scan_174 (t := 13) rfl ?_
                exact ih13 M46 v111_2 0 1 x53 (some (.int v111_6)) (some (.int v111_7)) (some (.int v111_8)) hJ49 (by omega) (by omega) (by have := zt_0; omega) (by have := zt_0; omega) (zbot _) (ztop _) (by omega) (by omega) (by have := zt_0; have := zt_1; omega)
            · skip
              refine w_cne_f dX5_scan_138 (t := 149) rfl (by have := zt_4; omega) ?_
              refine w_lo dX5_scan_141 rfl rfl rfl rfl ?_
              refine w_bi dX5_scan_143 (c := 48) (by decide) ?_
              refine w_sub dX5_scan_145 (by have := zt_48; omega) ?_
              intro x55 h56
              have := zt_48
              refine w_gt dX5_scan_146 (t := 151) rfl ?_
              refine w_lo dX5_scan_151 rfl rfl rfl rfl ?_
              refine w_iv dX5_scan_153 rfl rfl (As := [.int v111_7, .int x55, .int v111_5]) rfl rfl hJ.1.1 zs_2 (Nat.le_of_ble_eq_true rfl) ?_
              refine ZV.imp (k_1285 v111_7 (by omega) (by omega) x55 (by omega) (by omega) v111_5 (by omega) (by omega) hN hJ.1) ?_
              rintro _ ⟨M57, rfl, hJ58, hq59⟩
              have hJ60 := zJ_trans hJ hJ58 (zSub_cons (fun _ _ h h' hk => zIR_a (by omega) (by omega)) (zSub_cons (fun _ _ h h' hk => zIR_s (zIR_e (by omega) (by omega) hk)) zSub_nil))
              show ZW _ _ _ _ _ _ _ (156, [some (.ref 2), some (.ref 1), some (.int v111_2), some (.int u111_3), some (.int v111_4), some (.int v111_5), some (.int v111_6), some (.int v111_7), some (.int v111_8)], [], M57)
              refine w_ic dX5_scan_156 zi_1 ?_
              refine w_lo (ml' := [some (.ref 2), some (.ref 1), some (.int v111_2), some (.int u111_3), some (.int 1), some (.int v111_5), some (.int v111_6), some (.int v111_7), some (.int v111_8)]) dX5_scan_157 rfl rfl rfl rfl ?_
              refine w_lo dX5_scan_159 rfl rfl rfl rfl ?_
              rcases Int.decEq v111_8.toInt (0 : Int) with h61 | h61
              · skip
                refine w_ieq_f dX5_scan_161 (t := 169) rfl (by omega) ?_
                refine w_lo dX5_scan_164 rfl rfl rfl rfl ?_
                refine w_gt dX5_scan_166 (t := 170) rfl ?_
                refine w_lo (ml' := [some (.ref 2), some (.ref 1), some (.int v111_2), some (.int v111_7), some (.int 1), some (.int v111_5), some (.int v111_6), some (.int v111_7), some (.int v111_8)]) dX5_scan_170 rfl rfl rfl rfl ?_
                refine w_inc (kk := 5) dX5_scan_171 rfl (m := 1) (by decide) (by omega) ?_
                intro x62 h63
                refine ⟨_, rfl, ?_⟩
                show ZW _ _ _ _ _ _ _ (174, [some (.ref 2), some (.ref 1), some (.int v111_2), some (.int v111_7), some (.int 1), some (.int x62), some (.int v111_6), some (.int v111_7), some (.int v111_8)], [], M57)
                refine w_gt dX5_scan_174 (t := 13) rfl ?_
                exact ih13 M57 v111_2 v111_7 1 x62 (some (.int v111_6)) (some (.int v111_7)) (some (.int v111_8)) hJ60 (by omega) (by omega) (by omega) (by omega) (zbot _) (ztop _) (by omega) (by omega) (by have := zt_1; omega)
              · skip
                refine w_ieq_t dX5_scan_161 (t := 169) rfl (by omega) ?_
                refine w_ic dX5_scan_169 zi_0 ?_
                refine w_lo (ml' := [some (.ref 2), some (.ref 1), some (.int v111_2), some (.int 0), some (.int 1), some (.int v111_5), some (.int v111_6), some (.int v111_7), some (.int v111_8)]) dX5_scan_170 rfl rfl rfl rfl ?_
                refine w_inc (kk := 5) dX5_scan_171 rfl (m := 1) (by decide) (by omega) ?_
                intro x64 h65
                refine ⟨_, rfl, ?_⟩
                show ZW _ _ _ _ _ _ _ (174, [some (.ref 2), some (.ref 1), some (.int v111_2), some (.int 0), some (.int 1), some (.int x64), some (.int v111_6), some (.int v111_7), some (.int v111_8)], [], M57)
                refine w_gt dX5_scan_174 (t := 13) rfl ?_
                exact ih13 M57 v111_2 0 1 x64 (some (.int v111_6)) (some (.int v111_7)) (some (.int v111_8)) hJ60 (by omega) (by omega) (by have := zt_0; omega) (by have := zt_0; omega) (zbot _) (ztop _) (by omega) (by omega) (by have := zt_0; have := zt_1; omega)
          · skip
            refine w_cne_f dX5_scan_122 (t := 135) rfl (by have := zt_2; omega) ?_
            refine w_lo dX5_scan_125 rfl rfl rfl rfl ?_
            refine w_bi dX5_scan_127 (c := 97) (by decide) ?_
            refine w_sub dX5_scan_129 (by have := zt_97; omega) ?_
            intro x66 h67
            have := zt_97
            refine w_ic dX5_scan_130 zi_1 ?_
            refine w_add dX5_scan_131 (by have := zt_1; omega) ?_
            intro x68 h69
            have := zt_1
            refine w_gt dX5_scan_132 (t := 151) rfl ?_
            refine w_lo dX5_scan_151 rfl rfl rfl rfl ?_
            refine w_iv dX5_scan_153 rfl rfl (As := [.int v111_7, .int x68, .int v111_5]) rfl rfl hJ.1.1 zs_2 (Nat.le_of_ble_eq_true rfl) ?_
            refine ZV.imp (k_1285 v111_7 (by omega) (by omega) x68 (by omega) (by omega) v111_5 (by omega) (by omega) hN hJ.1) ?_
            rintro _ ⟨M70, rfl, hJ71, hq72⟩
            have hJ73 := zJ_trans hJ hJ71 (zSub_cons (fun _ _ h h' hk => zIR_a (by omega) (by omega)) (zSub_cons (fun _ _ h h' hk => zIR_s (zIR_e (by omega) (by omega) hk)) zSub_nil))
            show ZW _ _ _ _ _ _ _ (156, [some (.ref 2), some (.ref 1), some (.int v111_2), some (.int u111_3), some (.int v111_4), some (.int v111_5), some (.int v111_6), some (.int v111_7), some (.int v111_8)], [], M70)
            refine w_ic dX5_scan_156 zi_1 ?_
            refine w_lo (ml' := [some (.ref 2), some (.ref 1), some (.int v111_2), some (.int u111_3), some (.int 1), some (.int v111_5), some (.int v111_6), some (.int v111_7), some (.int v111_8)]) dX5_scan_157 rfl rfl rfl rfl ?_
            refine w_lo dX5_scan_159 rfl rfl rfl rfl ?_
            rcases Int.decEq v111_8.toInt (0 : Int) with h74 | h74
            · skip
              refine w_ieq_f dX5_scan_161 (t := 169) rfl (by omega) ?_
              refine w_lo dX5_scan_164 rfl rfl rfl rfl ?_
              refine w_gt dX5_scan_166 (t := 170) rfl ?_
              refine w_lo (ml' := [some (.ref 2), some (.ref 1), some (.int v111_2), some (.int v111_7), some (.int 1), some (.int v111_5), some (.int v111_6), some (.int v111_7), some (.int v111_8)]) dX5_scan_170 rfl rfl rfl rfl ?_
              refine w_inc (kk := 5) dX5_scan_171 rfl (m := 1) (by decide) (by omega) ?_
              intro x75 h76
              refine ⟨_, rfl, ?_⟩
              show ZW _ _ _ _ _ _ _ (174, [some (.ref 2), some (.ref 1), some (.int v111_2), some (.int v111_7), some (.int 1), some (.int x75), some (.int v111_6), some (.int v111_7), some (.int v111_8)], [], M70)
              refine w_gt dX5_scan_174 (t := 13) rfl ?_
              exact ih13 M70 v111_2 v111_7 1 x75 (some (.int v111_6)) (some (.int v111_7)) (some (.int v111_8)) hJ73 (by omega) (by omega) (by omega) (by omega) (zbot _) (ztop _) (by omega) (by omega) (by have := zt_1; omega)
            · skip
              refine w_ieq_t dX5_scan_161 (t := 169) rfl (by omega) ?_
              refine w_ic dX5_scan_169 zi_0 ?_
              refine w_lo (ml' := [some (.ref 2), some (.ref 1), some (.int v111_2), some (.int 0), some (.int 1), some (.int v111_5), some (.int v111_6), some (.int v111_7), some (.int v111_8)]) dX5_scan_170 rfl rfl rfl rfl ?_
              refine w_inc (kk := 5) dX5_scan_171 rfl (m := 1) (by decide) (by omega) ?_
              intro x77 h78
              refine ⟨_, rfl, ?_⟩
              show ZW _ _ _ _ _ _ _ (174, [some (.ref 2), some (.ref 1), some (.int v111_2), some (.int 0), some (.int 1), some (.int x77), some (.int v111_6), some (.int v111_7), some (.int v111_8)], [], M70)
              refine w_gt dX5_scan_174 (t := 13) rfl ?_
              exact ih13 M70 v111_2 0 1 x77 (some (.int v111_6)) (some (.int v111_7)) (some (.int v111_8)) hJ73 (by omega) (by omega) (by have := zt_0; omega) (by have := zt_0; omega) (zbot _) (ztop _) (by omega) (by omega) (by have := zt_0; have := zt_1; omega)
        · skip
          refine w_ieq_t dX5_scan_113 (t := 159) rfl (by omega) ?_
          refine w_lo dX5_scan_159 rfl rfl rfl rfl ?_
          rcases Int.decEq v111_8.toInt (0 : Int) with h79 | h79
          · skip
            refine w_ieq_f dX5_scan_161 (t := 169) rfl (by omega) ?_
            refine w_lo dX5_scan_164 rfl rfl rfl rfl ?_
            refine w_gt dX5_scan_166 (t := 170) rfl ?_
            refine w_lo (ml' := [some (.ref 2), some (.ref 1), some (.int v111_2), some (.int v111_7), some (.int v111_4), some (.int v111_5), some (.int v111_6), some (.int v111_7), some (.int v111_8)]) dX5_scan_170 rfl rfl rfl rfl ?_
            refine w_inc (kk := 5) dX5_scan_171 rfl (m := 1) (by decide) (by omega) ?_
            intro x80 h81
            refine ⟨_, rfl, ?_⟩
            show ZW _ _ _ _ _ _ _ (174, [some (.ref 2), some (.ref 1), some (.int v111_2), some (.int v111_7), some (.int v111_4), some (.int x80), some (.int v111_6), some (.int v111_7), some (.int v111_8)], [], M)
            refine w_gt dX5_scan_174 (t := 13) rfl ?_
            exact ih13 M v111_2 v111_7 v111_4 x80 (some (.int v111_6)) (some (.int v111_7)) (some (.int v111_8)) hJ (by omega) (by omega) (by omega) (by omega) (zbot _) (ztop _) (by omega) (by omega) (by omega)
          · skip
            refine w_ieq_t dX5_scan_161 (t := 169) rfl (by omega) ?_
            refine w_ic dX5_scan_169 zi_0 ?_
            refine w_lo (ml' := [some (.ref 2), some (.ref 1), some (.int v111_2), some (.int 0), some (.int v111_4), some (.int v111_5), some (.int v111_6), some (.int v111_7), some (.int v111_8)]) dX5_scan_170 rfl rfl rfl rfl ?_
            refine w_inc (kk := 5) dX5_scan_171 rfl (m := 1) (by decide) (by omega) ?_
            intro x82 h83
            refine ⟨_, rfl, ?_⟩
            show ZW _ _ _ _ _ _ _ (174, [some (.ref 2), some (.ref 1), some (.int v111_2), some (.int 0), some (.int v111_4), some (.int x82), some (.int v111_6), some (.int v111_7), some (.int v111_8)], [], M)
            refine w_gt dX5_scan_174 (t := 13) rfl ?_
            exact ih13 M v111_2 0 v111_4 x82 (some (.int v111_6)) (some (.int v111_7)) (some (.int v111_8)) hJ (by omega) (by omega) (by have := zt_0; omega) (by have := zt_0; omega) (zbot _) (ztop _) (by omega) (by omega) (by have := zt_0; omega)
  obtain ⟨ih13, ih51, ih86, ih111⟩ := main 9621
  show ZW _ _ _ _ _ _ _ (0, [some (.ref 2), some (.ref 1), some (.int a1), none, none, none, none, none, none], [], M0)
  refine w_lo dX5_scan_0 rfl rfl rfl rfl ?_
  refine w_ic dX5_scan_1 zi_0 ?_
  refine w_pfi dX5_scan_2 rfl hJ0 zs_2 (Nat.le_of_ble_eq_true rfl) zo_2_6 (by have := zt_0; omega) (by have := zt_0; omega) (zIR_s (zIR_k (by omega) (by omega))) rfl rfl rfl ?_
  intro M84 hJ85 f86 hn87
  refine w_ic dX5_scan_5 zi_0 ?_
  refine w_lo (ml' := [some (.ref 2), some (.ref 1), some (.int a1), some (.int 0), none, none, none, none, none]) dX5_scan_6 rfl rfl rfl rfl ?_
  refine w_ic dX5_scan_7 zi_0 ?_
  refine w_lo (ml' := [some (.ref 2), some (.ref 1), some (.int a1), some (.int 0), some (.int 0), none, none, none, none]) dX5_scan_8 rfl rfl rfl rfl ?_
  refine w_ic dX5_scan_10 zi_0 ?_
  refine w_lo (ml' := [some (.ref 2), some (.ref 1), some (.int a1), some (.int 0), some (.int 0), some (.int 0), none, none, none]) dX5_scan_11 rfl rfl rfl rfl ?_
  exact ih13 M84 a1 0 0 0 none none none hJ85 (by omega) (by omega) (by have := zt_0; omega) (by have := zt_0; omega) (zbot _) (ztop _) (by have := zt_0; omega) (by have := zt_0; omega) (by have := zt_0; omega)
set_option maxRecDepth 100000 in
theorem k_1286 {X : List Int32} {d N : Nat} {M0 : zM} (a0 : Int32) (ha00 : (1 : Int) ≤ a0.toInt) (ha01 : a0.toInt ≤ 5) (hN : N ≤ 600) (hB0 : zB N M0) : ZV X (d + 1) 1286 [.ref 2, .int a0] M0 (zRI N [(2, 3, 0), (2, 3, 1)] M0 (0) (0) (fun _ _ => True)) := by
  have hJ0 : zJ N [(2, 3, 0), (2, 3, 1)] M0 M0 := zJ_refl hB0
  refine ZV.of (ini := false) rfl (Nat.le_of_ble_eq_true rfl) (by decide +kernel) ?_
  show ZW _ _ _ _ _ _ _ (0, [some (.ref 2), some (.int a0), none], [], M0)
  refine w_lo dX5_fails_0 rfl rfl rfl rfl ?_
  refine w_lo dX5_fails_1 rfl rfl rfl rfl ?_
  refine w_pfi dX5_fails_2 rfl hJ0 zs_2 (Nat.le_of_ble_eq_true rfl) zo_2_0 (by omega) (by omega) (zIR_k (by omega) (by omega)) rfl rfl rfl ?_
  intro M1 hJ2 f3 hn4
  refine w_lo dX5_fails_5 rfl rfl rfl rfl ?_
  refine w_ic dX5_fails_6 zi_1 ?_
  rcases Int.decEq a0.toInt (1 : Int) with h5 | h5
  · skip
    refine w_cne_t dX5_fails_7 (t := 27) rfl (by have := zt_1; omega) ?_
    refine w_ic dX5_fails_27 zi_0 ?_
    refine w_lo (ml' := [some (.ref 2), some (.int a0), some (.int 0)]) dX5_fails_28 rfl rfl rfl rfl ?_
    refine w_lo dX5_fails_29 rfl rfl rfl rfl ?_
    refine w_lo dX5_fails_30 rfl rfl rfl rfl ?_
    refine w_ieq_t dX5_fails_31 (t := 46) rfl (by have := zt_0; omega) ?_
    refine w_lo dX5_fails_46 rfl rfl rfl rfl ?_
    refine w_gf dX5_fails_47 rfl hJ2.1.1 zs_2 (zr_2_5 hJ2.1) ?_
    refine w_lo dX5_fails_50 rfl rfl rfl rfl ?_
    refine w_gfi dX5_fails_51 rfl hJ2.1 zs_2 (Nat.le_of_ble_eq_true rfl) zo_2_7 ?_
    intro x6 f7 h8 h9
    refine w_iai dX5_fails_54 hJ2.1 zs_6 (by omega) (by omega) zu_6 ?_
    intro x13 f10 h11 h12
    refine w_pfi dX5_fails_55 rfl hJ2 zs_2 (Nat.le_of_ble_eq_true rfl) zo_2_1 (zbot _) (ztop _) (zIR_s (zIR_k (by omega) (by omega))) rfl rfl rfl ?_
    intro M14 hJ15 f16 hn17
    refine w_ic dX5_fails_58 zi_0 ?_
    refine w_en dX5_fails_59 rfl ?_
    exact ⟨_, _, rfl, (by have := zt_0; omega), (by have := zt_0; omega), hJ15, trivial⟩
  · skip
    refine w_cne_f dX5_fails_7 (t := 27) rfl (by have := zt_1; omega) ?_
    refine w_lo dX5_fails_10 rfl rfl rfl rfl ?_
    refine w_gf dX5_fails_11 rfl hJ2.1.1 zs_2 (zr_2_3 hJ2.1) ?_
    refine w_lo dX5_fails_14 rfl rfl rfl rfl ?_
    refine w_gfi dX5_fails_15 rfl hJ2.1 zs_2 (Nat.le_of_ble_eq_true rfl) zo_2_7 ?_
    intro x18 f19 h20 h21
    refine w_iai dX5_fails_18 hJ2.1 zs_4 (by omega) (by omega) zu_4 ?_
    intro x25 f22 h23 h24
    refine w_ic dX5_fails_19 zi_1 ?_
    rcases Int.decEq x25.toInt (1 : Int) with h26 | h26
    · skip
      refine w_cne_t dX5_fails_20 (t := 27) rfl (by have := zt_1; omega) ?_
      refine w_ic dX5_fails_27 zi_0 ?_
      refine w_lo (ml' := [some (.ref 2), some (.int a0), some (.int 0)]) dX5_fails_28 rfl rfl rfl rfl ?_
      refine w_lo dX5_fails_29 rfl rfl rfl rfl ?_
      refine w_lo dX5_fails_30 rfl rfl rfl rfl ?_
      refine w_ieq_t dX5_fails_31 (t := 46) rfl (by have := zt_0; omega) ?_
      refine w_lo dX5_fails_46 rfl rfl rfl rfl ?_
      refine w_gf dX5_fails_47 rfl hJ2.1.1 zs_2 (zr_2_5 hJ2.1) ?_
      refine w_lo dX5_fails_50 rfl rfl rfl rfl ?_
      refine w_gf dX5_fails_51 rfl hJ2.1.1 zs_2 f19 ?_
      refine w_iai dX5_fails_54 hJ2.1 zs_6 (by omega) (by omega) zu_6 ?_
      intro x30 f27 h28 h29
      refine w_pfi dX5_fails_55 rfl hJ2 zs_2 (Nat.le_of_ble_eq_true rfl) zo_2_1 (zbot _) (ztop _) (zIR_s (zIR_k (by omega) (by omega))) rfl rfl rfl ?_
      intro M31 hJ32 f33 hn34
      refine w_ic dX5_fails_58 zi_0 ?_
      refine w_en dX5_fails_59 rfl ?_
      exact ⟨_, _, rfl, (by have := zt_0; omega), (by have := zt_0; omega), hJ32, trivial⟩
    · skip
      refine w_cne_f dX5_fails_20 (t := 27) rfl (by have := zt_1; omega) ?_
      refine w_ic dX5_fails_23 zi_1 ?_
      refine w_gt dX5_fails_24 (t := 28) rfl ?_
      refine w_lo (ml' := [some (.ref 2), some (.int a0), some (.int 1)]) dX5_fails_28 rfl rfl rfl rfl ?_
      refine w_lo dX5_fails_29 rfl rfl rfl rfl ?_
      refine w_lo dX5_fails_30 rfl rfl rfl rfl ?_
      refine w_ieq_f dX5_fails_31 (t := 46) rfl (by have := zt_1; omega) ?_
      refine w_lo dX5_fails_34 rfl rfl rfl rfl ?_
      refine w_gf dX5_fails_35 rfl hJ2.1.1 zs_2 (zr_2_4 hJ2.1) ?_
      refine w_lo dX5_fails_38 rfl rfl rfl rfl ?_
      refine w_gf dX5_fails_39 rfl hJ2.1.1 zs_2 f19 ?_
      refine w_iai dX5_fails_42 hJ2.1 zs_5 (by omega) (by omega) zu_5 ?_
      intro x38 f35 h36 h37
      refine w_gt dX5_fails_43 (t := 55) rfl ?_
      refine w_pfi dX5_fails_55 rfl hJ2 zs_2 (Nat.le_of_ble_eq_true rfl) zo_2_1 (zbot _) (ztop _) (zIR_s (zIR_k (by omega) (by omega))) rfl rfl rfl ?_
      intro M39 hJ40 f41 hn42
      refine w_ic dX5_fails_58 zi_0 ?_
      refine w_en dX5_fails_59 rfl ?_
      exact ⟨_, _, rfl, (by have := zt_0; omega), (by have := zt_0; omega), hJ40, trivial⟩
set_option maxRecDepth 100000 in
theorem k_1287 {X : List Int32} {d N : Nat} {M0 : zM}  (hN : N ≤ 600) (hB0 : zB N M0) : ZV X (d + 1) 1287 [.ref 2] M0 (zRI N [] M0 (-1) (26) (fun _ _ => True)) := by
  have hJ0 : zJ N [] M0 M0 := zJ_refl hB0
  refine ZV.of (ini := false) rfl (Nat.le_of_ble_eq_true rfl) (by decide +kernel) ?_
  have main : ∀ n : Nat,
      (∀ (M : zM) (v15_1 : Int32), zJ N [] M0 M → ((0 : Int) ≤ v15_1.toInt) → (v15_1.toInt ≤ 27) → 3 * (27 - v15_1.toInt) + 1 < (n : Int) → ZW X (d + 0) 5 false (some .int) cX5_own (zRI N [] M0 (-1) (26) (fun _ _ => True)) (15, [some (.ref 2), some (.int v15_1)], [], M)) := by
    intro n
    induction n with
    | zero =>
      exact (fun M v15_1 hJ v15_10 v15_11 hn => absurd hn (by omega))
    | succ n ih =>
      have ih15 := ih
      · intro M v15_1 hJ v15_10 v15_11 hn
        refine w_lo dX5_own_15 rfl rfl rfl rfl ?_
        refine w_bi dX5_own_16 (c := 27) (by decide) ?_
        rcases zcut v15_1.toInt (27 : Int) with h1 | h1
        · skip
          refine w_cge_f dX5_own_18 (t := 47) rfl (by have := zt_27; omega) ?_
          refine w_lo dX5_own_21 rfl rfl rfl rfl ?_
          refine w_gf dX5_own_22 rfl hJ.1.1 zs_2 (zr_2_2 hJ.1) ?_
          refine w_lo dX5_own_25 rfl rfl rfl rfl ?_
          refine w_iai dX5_own_26 hJ.1 zs_3 (by omega) (by omega) zu_3 ?_
          intro x5 f2 h3 h4
          refine w_lo dX5_own_27 rfl rfl rfl rfl ?_
          refine w_gf dX5_own_28 rfl hJ.1.1 zs_2 (zr_2_4 hJ.1) ?_
          refine w_lo dX5_own_31 rfl rfl rfl rfl ?_
          refine w_gfi dX5_own_32 rfl hJ.1 zs_2 (Nat.le_of_ble_eq_true rfl) zo_2_7 ?_
          intro x6 f7 h8 h9
          refine w_iai dX5_own_35 hJ.1 zs_5 (by omega) (by omega) zu_5 ?_
          intro x13 f10 h11 h12
          rcases Int.decEq x5.toInt x13.toInt with h14 | h14
          · skip
            refine w_cne_t dX5_own_36 (t := 41) rfl (by omega) ?_
            refine w_inc (kk := 1) dX5_own_41 rfl (m := 1) (by decide) (by omega) ?_
            intro x15 h16
            refine ⟨_, rfl, ?_⟩
            show ZW _ _ _ _ _ _ _ (44, [some (.ref 2), some (.int x15)], [], M)
            refine w_gt dX5_own_44 (t := 15) rfl ?_
            exact ih15 M x15 hJ (by omega) (by omega) (by omega)
          · skip
            refine w_cne_f dX5_own_36 (t := 41) rfl (by omega) ?_
            refine w_lo dX5_own_39 rfl rfl rfl rfl ?_
            refine w_eni dX5_own_40 rfl rfl ?_
            exact ⟨_, _, rfl, (by omega), (by omega), hJ, trivial⟩
        · skip
          refine w_cge_t dX5_own_18 (t := 47) rfl (by have := zt_27; omega) ?_
          refine w_ic dX5_own_47 zi_m1 ?_
          refine w_en dX5_own_48 rfl ?_
          exact ⟨_, _, rfl, (by have := zt_m1; omega), (by have := zt_m1; omega), hJ, trivial⟩
  have ih15 := main 93
  show ZW _ _ _ _ _ _ _ (0, [some (.ref 2), none], [], M0)
  refine w_lo dX5_own_0 rfl rfl rfl rfl ?_
  refine w_gf dX5_own_1 rfl hJ0.1.1 zs_2 (zr_2_3 hJ0.1) ?_
  refine w_lo dX5_own_4 rfl rfl rfl rfl ?_
  refine w_gfi dX5_own_5 rfl hJ0.1 zs_2 (Nat.le_of_ble_eq_true rfl) zo_2_7 ?_
  intro x17 f18 h19 h20
  refine w_iai dX5_own_8 hJ0.1 zs_4 (by omega) (by omega) zu_4 ?_
  intro x24 f21 h22 h23
  refine w_ic dX5_own_9 zi_2 ?_
  rcases Int.decEq x24.toInt (2 : Int) with h25 | h25
  · skip
    refine w_cne_t dX5_own_10 (t := 47) rfl (by have := zt_2; omega) ?_
    refine w_ic dX5_own_47 zi_m1 ?_
    refine w_en dX5_own_48 rfl ?_
    exact ⟨_, _, rfl, (by have := zt_m1; omega), (by have := zt_m1; omega), hJ0, trivial⟩
  · skip
    refine w_cne_f dX5_own_10 (t := 47) rfl (by have := zt_2; omega) ?_
    refine w_ic dX5_own_13 zi_0 ?_
    refine w_lo (ml' := [some (.ref 2), some (.int 0)]) dX5_own_14 rfl rfl rfl rfl ?_
    exact ih15 M0 0 hJ0 (by have := zt_0; omega) (by have := zt_0; omega) (by have := zt_0; omega)
