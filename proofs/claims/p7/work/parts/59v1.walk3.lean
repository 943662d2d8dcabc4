/-! walks of the class by pure conditions (wip/safe/gen35.py) -/
set_option maxRecDepth 100000 in
theorem u_1 {X : List Int32} {d N : Nat} {M0 : zM}  (hN : N ≤ 600) (hB0 : zB N M0) {Q : zF → Prop} (hb : b_1 (zi M0) Q) : ZV X (d + 1) 1 [.ref 77] M0 (zRV N [(77, 78, 0)] M0 (fun M' => Q (zi M'))) := by
  have hJ0 : zJ N [(77, 78, 0)] M0 M0 := zJ_refl hB0
  refine ZV.of (ini := false) rfl (Nat.le_of_ble_eq_true rfl) (by decide +kernel) ?_
  unfold b_1 at hb
  replace hb : zHd _ := hb
  show ZW _ _ _ _ _ _ _ (0, [some (.ref 77)], [], M0)
  refine w_lo dX0_forget_0 rfl rfl rfl rfl ?_
  refine w_ic dX0_forget_1 zi_0 ?_
  refine w_pfi dX0_forget_2 rfl hJ0 zs_77 (Nat.le_of_ble_eq_true rfl) zo_77_0 (by have := zt_0; omega) (by have := zt_0; omega) (zIR_k (by omega) (by omega)) rfl rfl rfl ?_
  intro M1 hJ2 f3 hn4
  replace hb : zHd _ := hb (zi M1) (zi_zup hn4 f3 rfl zt_0)
  refine w_en dX0_forget_5 rfl ?_
  exact ⟨_, rfl, hJ2, hb⟩
set_option maxRecDepth 100000 in
theorem u_1542 {X : List Int32} {d N : Nat} {M0 : zM} (t : Nat) (ht : zRp t) (p0 : Nat) (hp0 : zRp p0) (hN : N ≤ 600) (hB0 : zB N M0) {Q : zF → Prop} (hb : b_1542 t p0 (zi M0) Q) : ZV X (d + 2) 1542 [.ref t, .ref p0] M0 (zRV N [(t, t + 1, 0), (t, t + 1, 1), (t + 1, t + 14, 1000), (t, t + 1, 14)] M0 (fun M' => Q (zi M'))) := by
  have hbp0 := zRp_b hp0
  have hbt := zRp_b ht
  have hJ0 : zJ N [(t, t + 1, 0), (t, t + 1, 1), (t + 1, t + 14, 1000), (t, t + 1, 14)] M0 M0 := zJ_refl hB0
  refine ZV.of (ini := false) rfl (Nat.le_of_ble_eq_true rfl) (by decide +kernel) ?_
  unfold b_1542 at hb
  replace hb : zHd _ := hb
  show ZW _ _ _ _ _ _ _ (0, [some (.ref t), some (.ref p0)], [], M0)
  refine w_lo dX6_take_0 rfl rfl rfl rfl ?_
  refine w_lo dX6_take_1 rfl rfl rfl rfl ?_
  refine w_gfi dX6_take_2 rfl hJ0.1 (zs_6_0 hp0) (Nat.le_of_ble_eq_true rfl) (zo_6_0_0 hp0) ?_
  intro x1 f2 h3 h4
  replace hb : zHd _ := hb x1.toInt (ziE f2) h3 h4
  refine w_pfi dX6_take_5 rfl hJ0 (zs_6_0 ht) (Nat.le_of_ble_eq_true rfl) (zo_6_0_0 ht) (by omega) (by omega) (zIR_k (by omega) (by omega)) rfl rfl rfl ?_
  intro M5 hJ6 f7 hn8
  replace hb : zHd _ := hb (zi M5) (zi_zup hn8 f7 rfl rfl)
  refine w_lo dX6_take_8 rfl rfl rfl rfl ?_
  refine w_lo dX6_take_9 rfl rfl rfl rfl ?_
  refine w_gfi dX6_take_10 rfl hJ6.1 (zs_6_0 hp0) (Nat.le_of_ble_eq_true rfl) (zo_6_0_1 hp0) ?_
  intro x10 f11 h12 h13
  replace hb : zHd _ := hb x10.toInt (ziE f11)
  refine w_pfi dX6_take_13 rfl hJ6 (zs_6_0 ht) (Nat.le_of_ble_eq_true rfl) (zo_6_0_1 ht) (zbot _) (ztop _) (zIR_s (zIR_k (by omega) (by omega))) rfl rfl rfl ?_
  intro M14 hJ15 f16 hn17
  replace hb : zHd _ := hb (zi M14) (zi_zup hn17 f16 rfl rfl)
  refine w_lo dX6_take_16 rfl rfl rfl rfl ?_
  refine w_lo dX6_take_17 rfl rfl rfl rfl ?_
  refine w_gfc dX6_take_18 rfl hJ15.1 (zs_6_0 hp0) (Nat.le_of_ble_eq_true rfl) (zo_6_0_14 hp0) ?_
  intro x19 f20 h21 h22
  replace hb : zHd _ := hb x19.toInt (ziE f20) h21
  refine w_pfc dX6_take_21 rfl hJ15 (zs_6_0 ht) (Nat.le_of_ble_eq_true rfl) (zo_6_0_14 ht) (by omega) (by omega) (zIR_s (zIR_s (zIR_s (zIR_k (by omega) (by omega))))) rfl rfl rfl ?_
  intro M23 hJ24 f25 hn26
  replace hb : zHd _ := hb (zi M23) (zi_zup hn26 f25 rfl rfl)
  refine w_lo dX6_take_24 rfl rfl rfl rfl ?_
  refine w_gf dX6_take_25 rfl hJ24.1.1 (zs_6_0 hp0) (zr_6_0_2 hp0 hJ24.1) ?_
  refine w_ic dX6_take_28 zi_0 ?_
  refine w_lo dX6_take_29 rfl rfl rfl rfl ?_
  refine w_gf dX6_take_30 rfl hJ24.1.1 (zs_6_0 ht) (zr_6_0_2 ht hJ24.1) ?_
  refine w_ic dX6_take_33 zi_0 ?_
  refine w_bi dX6_take_34 (c := 12) (by decide) ?_
  refine w_cpG (kd := 10) (Or.inl rfl) dX6_take_36 rfl (Nat.le_of_ble_eq_true rfl) hJ24 (zs_6_1 hp0) (zs_6_1 ht) zt_12 (Nat.le_of_ble_eq_true rfl) (Nat.le_of_ble_eq_true rfl) (zu_6_1 hp0) (zu_6_1 ht) (by decide) (by decide) (fun _ => (zIR_s (zIR_s (zIR_a (by omega) (by omega))))) ?_
  intro M28 hJ29 hn30
  replace hb : zHd _ := hb (zi M28) (fun a k h => zi_vl (hn30 a k (Or.inl (Ne.symm h))))
  show ZW _ _ _ _ _ _ _ (39, [some (.ref t), some (.ref p0)], [], M28)
  refine w_lo dX6_take_39 rfl rfl rfl rfl ?_
  refine w_gf dX6_take_40 rfl hJ29.1.1 (zs_6_0 hp0) (zr_6_0_3 hp0 hJ29.1) ?_
  refine w_ic dX6_take_43 zi_0 ?_
  refine w_lo dX6_take_44 rfl rfl rfl rfl ?_
  refine w_gf dX6_take_45 rfl hJ29.1.1 (zs_6_0 ht) (zr_6_0_3 ht hJ29.1) ?_
  refine w_ic dX6_take_48 zi_0 ?_
  refine w_bi dX6_take_49 (c := 12) (by decide) ?_
  refine w_cpG (kd := 12) (Or.inr ⟨rfl, rfl, rfl⟩) dX6_take_51 rfl (Nat.le_of_ble_eq_true rfl) hJ29 (zs_6_2 hp0) (zs_6_2 ht) zt_12 (Nat.le_of_ble_eq_true rfl) (Nat.le_of_ble_eq_true rfl) (zu_6_2 hp0) (zu_6_2 ht) (by decide) (by decide) (fun _ => (zIR_s (zIR_s (zIR_a (by omega) (by omega))))) ?_
  intro M32 hJ33 hn34
  replace hb : zHd _ := hb (zi M32) (fun a k h => zi_vl (hn34 a k (Or.inl (Ne.symm h))))
  show ZW _ _ _ _ _ _ _ (54, [some (.ref t), some (.ref p0)], [], M32)
  refine w_lo dX6_take_54 rfl rfl rfl rfl ?_
  refine w_gf dX6_take_55 rfl hJ33.1.1 (zs_6_0 hp0) (zr_6_0_4 hp0 hJ33.1) ?_
  refine w_ic dX6_take_58 zi_0 ?_
  refine w_lo dX6_take_59 rfl rfl rfl rfl ?_
  refine w_gf dX6_take_60 rfl hJ33.1.1 (zs_6_0 ht) (zr_6_0_4 ht hJ33.1) ?_
  refine w_ic dX6_take_63 zi_0 ?_
  refine w_bi dX6_take_64 (c := 12) (by decide) ?_
  refine w_cpG (kd := 10) (Or.inl rfl) dX6_take_66 rfl (Nat.le_of_ble_eq_true rfl) hJ33 (zs_6_3 hp0) (zs_6_3 ht) zt_12 (Nat.le_of_ble_eq_true rfl) (Nat.le_of_ble_eq_true rfl) (zu_6_3 hp0) (zu_6_3 ht) (by decide) (by decide) (fun _ => (zIR_s (zIR_s (zIR_a (by omega) (by omega))))) ?_
  intro M36 hJ37 hn38
  replace hb : zHd _ := hb (zi M36) (fun a k h => zi_vl (hn38 a k (Or.inl (Ne.symm h))))
  show ZW _ _ _ _ _ _ _ (69, [some (.ref t), some (.ref p0)], [], M36)
  refine w_lo dX6_take_69 rfl rfl rfl rfl ?_
  refine w_gf dX6_take_70 rfl hJ37.1.1 (zs_6_0 hp0) (zr_6_0_5 hp0 hJ37.1) ?_
  refine w_ic dX6_take_73 zi_0 ?_
  refine w_lo dX6_take_74 rfl rfl rfl rfl ?_
  refine w_gf dX6_take_75 rfl hJ37.1.1 (zs_6_0 ht) (zr_6_0_5 ht hJ37.1) ?_
  refine w_ic dX6_take_78 zi_0 ?_
  refine w_bi dX6_take_79 (c := 12) (by decide) ?_
  refine w_cpG (kd := 10) (Or.inl rfl) dX6_take_81 rfl (Nat.le_of_ble_eq_true rfl) hJ37 (zs_6_4 hp0) (zs_6_4 ht) zt_12 (Nat.le_of_ble_eq_true rfl) (Nat.le_of_ble_eq_true rfl) (zu_6_4 hp0) (zu_6_4 ht) (by decide) (by decide) (fun _ => (zIR_s (zIR_s (zIR_a (by omega) (by omega))))) ?_
  intro M40 hJ41 hn42
  replace hb : zHd _ := hb (zi M40) (fun a k h => zi_vl (hn42 a k (Or.inl (Ne.symm h))))
  show ZW _ _ _ _ _ _ _ (84, [some (.ref t), some (.ref p0)], [], M40)
  refine w_lo dX6_take_84 rfl rfl rfl rfl ?_
  refine w_gf dX6_take_85 rfl hJ41.1.1 (zs_6_0 hp0) (zr_6_0_6 hp0 hJ41.1) ?_
  refine w_ic dX6_take_88 zi_0 ?_
  refine w_lo dX6_take_89 rfl rfl rfl rfl ?_
  refine w_gf dX6_take_90 rfl hJ41.1.1 (zs_6_0 ht) (zr_6_0_6 ht hJ41.1) ?_
  refine w_ic dX6_take_93 zi_0 ?_
  refine w_bi dX6_take_94 (c := 12) (by decide) ?_
  refine w_cpG (kd := 10) (Or.inl rfl) dX6_take_96 rfl (Nat.le_of_ble_eq_true rfl) hJ41 (zs_6_5 hp0) (zs_6_5 ht) zt_12 (Nat.le_of_ble_eq_true rfl) (Nat.le_of_ble_eq_true rfl) (zu_6_5 hp0) (zu_6_5 ht) (by decide) (by decide) (fun _ => (zIR_s (zIR_s (zIR_a (by omega) (by omega))))) ?_
  intro M44 hJ45 hn46
  replace hb : zHd _ := hb (zi M44) (fun a k h => zi_vl (hn46 a k (Or.inl (Ne.symm h))))
  show ZW _ _ _ _ _ _ _ (99, [some (.ref t), some (.ref p0)], [], M44)
  refine w_lo dX6_take_99 rfl rfl rfl rfl ?_
  refine w_gf dX6_take_100 rfl hJ45.1.1 (zs_6_0 hp0) (zr_6_0_7 hp0 hJ45.1) ?_
  refine w_ic dX6_take_103 zi_0 ?_
  refine w_lo dX6_take_104 rfl rfl rfl rfl ?_
  refine w_gf dX6_take_105 rfl hJ45.1.1 (zs_6_0 ht) (zr_6_0_7 ht hJ45.1) ?_
  refine w_ic dX6_take_108 zi_0 ?_
  refine w_bi dX6_take_109 (c := 12) (by decide) ?_
  refine w_cpG (kd := 10) (Or.inl rfl) dX6_take_111 rfl (Nat.le_of_ble_eq_true rfl) hJ45 (zs_6_6 hp0) (zs_6_6 ht) zt_12 (Nat.le_of_ble_eq_true rfl) (Nat.le_of_ble_eq_true rfl) (zu_6_6 hp0) (zu_6_6 ht) (by decide) (by decide) (fun _ => (zIR_s (zIR_s (zIR_a (by omega) (by omega))))) ?_
  intro M48 hJ49 hn50
  replace hb : zHd _ := hb (zi M48) (fun a k h => zi_vl (hn50 a k (Or.inl (Ne.symm h))))
  show ZW _ _ _ _ _ _ _ (114, [some (.ref t), some (.ref p0)], [], M48)
  refine w_lo dX6_take_114 rfl rfl rfl rfl ?_
  refine w_gf dX6_take_115 rfl hJ49.1.1 (zs_6_0 hp0) (zr_6_0_8 hp0 hJ49.1) ?_
  refine w_ic dX6_take_118 zi_0 ?_
  refine w_lo dX6_take_119 rfl rfl rfl rfl ?_
  refine w_gf dX6_take_120 rfl hJ49.1.1 (zs_6_0 ht) (zr_6_0_8 ht hJ49.1) ?_
  refine w_ic dX6_take_123 zi_0 ?_
  refine w_bi dX6_take_124 (c := 12) (by decide) ?_
  refine w_cpG (kd := 10) (Or.inl rfl) dX6_take_126 rfl (Nat.le_of_ble_eq_true rfl) hJ49 (zs_6_7 hp0) (zs_6_7 ht) zt_12 (Nat.le_of_ble_eq_true rfl) (Nat.le_of_ble_eq_true rfl) (zu_6_7 hp0) (zu_6_7 ht) (by decide) (by decide) (fun _ => (zIR_s (zIR_s (zIR_a (by omega) (by omega))))) ?_
  intro M52 hJ53 hn54
  replace hb : zHd _ := hb (zi M52) (fun a k h => zi_vl (hn54 a k (Or.inl (Ne.symm h))))
  show ZW _ _ _ _ _ _ _ (129, [some (.ref t), some (.ref p0)], [], M52)
  refine w_lo dX6_take_129 rfl rfl rfl rfl ?_
  refine w_gf dX6_take_130 rfl hJ53.1.1 (zs_6_0 hp0) (zr_6_0_9 hp0 hJ53.1) ?_
  refine w_ic dX6_take_133 zi_0 ?_
  refine w_lo dX6_take_134 rfl rfl rfl rfl ?_
  refine w_gf dX6_take_135 rfl hJ53.1.1 (zs_6_0 ht) (zr_6_0_9 ht hJ53.1) ?_
  refine w_ic dX6_take_138 zi_0 ?_
  refine w_bi dX6_take_139 (c := 12) (by decide) ?_
  refine w_cpG (kd := 10) (Or.inl rfl) dX6_take_141 rfl (Nat.le_of_ble_eq_true rfl) hJ53 (zs_6_8 hp0) (zs_6_8 ht) zt_12 (Nat.le_of_ble_eq_true rfl) (Nat.le_of_ble_eq_true rfl) (zu_6_8 hp0) (zu_6_8 ht) (by decide) (by decide) (fun _ => (zIR_s (zIR_s (zIR_a (by omega) (by omega))))) ?_
  intro M56 hJ57 hn58
  replace hb : zHd _ := hb (zi M56) (fun a k h => zi_vl (hn58 a k (Or.inl (Ne.symm h))))
  show ZW _ _ _ _ _ _ _ (144, [some (.ref t), some (.ref p0)], [], M56)
  refine w_lo dX6_take_144 rfl rfl rfl rfl ?_
  refine w_gf dX6_take_145 rfl hJ57.1.1 (zs_6_0 hp0) (zr_6_0_10 hp0 hJ57.1) ?_
  refine w_ic dX6_take_148 zi_0 ?_
  refine w_lo dX6_take_149 rfl rfl rfl rfl ?_
  refine w_gf dX6_take_150 rfl hJ57.1.1 (zs_6_0 ht) (zr_6_0_10 ht hJ57.1) ?_
  refine w_ic dX6_take_153 zi_0 ?_
  refine w_bi dX6_take_154 (c := 12) (by decide) ?_
  refine w_cpG (kd := 10) (Or.inl rfl) dX6_take_156 rfl (Nat.le_of_ble_eq_true rfl) hJ57 (zs_6_9 hp0) (zs_6_9 ht) zt_12 (Nat.le_of_ble_eq_true rfl) (Nat.le_of_ble_eq_true rfl) (zu_6_9 hp0) (zu_6_9 ht) (by decide) (by decide) (fun _ => (zIR_s (zIR_s (zIR_a (by omega) (by omega))))) ?_
  intro M60 hJ61 hn62
  replace hb : zHd _ := hb (zi M60) (fun a k h => zi_vl (hn62 a k (Or.inl (Ne.symm h))))
  show ZW _ _ _ _ _ _ _ (159, [some (.ref t), some (.ref p0)], [], M60)
  refine w_lo dX6_take_159 rfl rfl rfl rfl ?_
  refine w_gf dX6_take_160 rfl hJ61.1.1 (zs_6_0 hp0) (zr_6_0_11 hp0 hJ61.1) ?_
  refine w_ic dX6_take_163 zi_0 ?_
  refine w_lo dX6_take_164 rfl rfl rfl rfl ?_
  refine w_gf dX6_take_165 rfl hJ61.1.1 (zs_6_0 ht) (zr_6_0_11 ht hJ61.1) ?_
  refine w_ic dX6_take_168 zi_0 ?_
  refine w_bi dX6_take_169 (c := 12) (by decide) ?_
  refine w_cpG (kd := 10) (Or.inl rfl) dX6_take_171 rfl (Nat.le_of_ble_eq_true rfl) hJ61 (zs_6_10 hp0) (zs_6_10 ht) zt_12 (Nat.le_of_ble_eq_true rfl) (Nat.le_of_ble_eq_true rfl) (zu_6_10 hp0) (zu_6_10 ht) (by decide) (by decide) (fun _ => (zIR_s (zIR_s (zIR_a (by omega) (by omega))))) ?_
  intro M64 hJ65 hn66
  replace hb : zHd _ := hb (zi M64) (fun a k h => zi_vl (hn66 a k (Or.inl (Ne.symm h))))
  show ZW _ _ _ _ _ _ _ (174, [some (.ref t), some (.ref p0)], [], M64)
  refine w_lo dX6_take_174 rfl rfl rfl rfl ?_
  refine w_lo dX6_take_175 rfl rfl rfl rfl ?_
  refine w_iv dX6_take_176 rfl rfl (As := [.ref p0]) rfl rfl hJ65.1.1 (zs_6_0 ht) (Nat.le_of_ble_eq_true rfl) ?_
  refine ZV.imp (k_1543 t ht p0 hp0 hN hJ65.1) ?_
  rintro _ ⟨M68, rfl, hJ69, hq70⟩
  replace hb : zHd _ := hb  (zi M68) (zi_fr hJ69.2)
  have hJ72 := zJ_trans hJ65 hJ69 (zSub_cons (fun _ _ h h' hk => zIR_s (zIR_s (zIR_a (by omega) (by omega)))) zSub_nil)
  show ZW _ _ _ _ _ _ _ (179, [some (.ref t), some (.ref p0)], [], M68)
  refine w_lo dX6_take_179 rfl rfl rfl rfl ?_
  refine w_gf dX6_take_180 rfl hJ72.1.1 (zs_6_0 hp0) (zr_6_0_15 hp0 hJ72.1) ?_
  refine w_ic dX6_take_183 zi_0 ?_
  refine w_lo dX6_take_184 rfl rfl rfl rfl ?_
  refine w_gf dX6_take_185 rfl hJ72.1.1 (zs_6_0 ht) (zr_6_0_15 ht hJ72.1) ?_
  refine w_ic dX6_take_188 zi_0 ?_
  refine w_si dX6_take_189 (c := 200) (by decide) ?_
  refine w_cpG (kd := 10) (Or.inl rfl) dX6_take_192 rfl (Nat.le_of_ble_eq_true rfl) hJ72 (zs_6_13 hp0) (zs_6_13 ht) zt_200 (Nat.le_of_ble_eq_true rfl) (Nat.le_of_ble_eq_true rfl) (zu_6_13 hp0) (zu_6_13 ht) (by decide) (by decide) (fun _ => (zIR_s (zIR_s (zIR_a (by omega) (by omega))))) ?_
  intro M73 hJ74 hn75
  replace hb : zHd _ := hb (zi M73) (fun a k h => zi_vl (hn75 a k (Or.inl (Ne.symm h))))
  show ZW _ _ _ _ _ _ _ (195, [some (.ref t), some (.ref p0)], [], M73)
  refine w_en dX6_take_195 rfl ?_
  exact ⟨_, rfl, hJ74, hb⟩
set_option maxRecDepth 100000 in
theorem u_2 {X : List Int32} {d N : Nat} {M0 : zM} (p0 : Nat) (hp0 : zRp p0) (hN : N ≤ 600) (hB0 : zB N M0) {Q : zF → Prop} (hb : b_2 p0 (zi M0) Q) : ZV X (d + 3) 2 [.ref 77, .ref p0] M0 (zRV N [(77, 78, 0), (79, 346, 0), (77, 78, 1), (79, 346, 1), (80, 359, 1000), (79, 346, 14)] M0 (fun M' => Q (zi M'))) := by
  have hbp0 := zRp_b hp0
  have hJ0 : zJ N [(77, 78, 0), (79, 346, 0), (77, 78, 1), (79, 346, 1), (80, 359, 1000), (79, 346, 14)] M0 M0 := zJ_refl hB0
  refine ZV.of (ini := false) rfl (Nat.le_of_ble_eq_true rfl) (by decide +kernel) ?_
  obtain ⟨I19, hbE, hb19⟩ := hb
  replace hbE : zHd _ := hbE
  replace hb19 : zHd _ := hb19
  have main : ∀ n : Nat,
      (∀ (M : zM) (o19_1 : Option Value) (o19_2 : Option Value), zJ N [(77, 78, 0), (79, 346, 0), (77, 78, 1), (79, 346, 1), (80, 359, 1000), (79, 346, 14)] M0 M → I19 n (zi M)  → ZW X (d + 2) 0 false none cX0_keep (zRV N [(77, 78, 0), (79, 346, 0), (77, 78, 1), (79, 346, 1), (80, 359, 1000), (79, 346, 14)] M0 (fun M' => Q (zi M'))) (19, [some (.ref 77), o19_1, o19_2], [], M)) := by
    intro n
    induction n using Nat.strongRecOn with
    | _ n ih =>
      · intro M o19_1 o19_2 hJ hI
        have hb : zHd _ := hb19 n (zi M)  (zi_fr hJ.2)  hI
        refine w_lo dX0_keep_19 rfl rfl rfl rfl ?_
        refine w_lo dX0_keep_20 rfl rfl rfl rfl ?_
        refine w_gfi dX0_keep_21 rfl hJ.1 zs_77 (Nat.le_of_ble_eq_true rfl) zo_77_1 ?_
        intro x1 f2 h3 h4
        replace hb : zHd _ := hb x1.toInt (ziE f2) h3 h4
        refine w_ic dX0_keep_24 zi_1 ?_
        refine w_add dX0_keep_25 (by have := zt_1; omega) ?_
        intro x5 h6
        have := zt_1
        replace hb : zHd _ := hb x5.toInt (by have := zt_1; omega)
        refine w_bi dX0_keep_26 (c := 20) (by decide) ?_
        refine w_remE dX0_keep_28 (by omega) (by have := zt_20; omega) ?_
        intro x7 h8 h9 h10
        have := zt_20
        replace hb : zHd _ := hb x7.toInt h8 (by omega) (by rw [h10, zt_20])
        refine w_pfi dX0_keep_29 rfl hJ zs_77 (Nat.le_of_ble_eq_true rfl) zo_77_1 (by omega) (by omega) (zIR_s (zIR_s (zIR_k (by omega) (by omega)))) rfl rfl rfl ?_
        intro M11 hJ12 f13 hn14
        replace hb : zHd _ := hb (zi M11) (zi_zup hn14 f13 rfl rfl)
        refine w_lo dX0_keep_32 rfl rfl rfl rfl ?_
        refine w_bi dX0_keep_33 (c := 20) (by decide) ?_
        refine w_lo dX0_keep_35 rfl rfl rfl rfl ?_
        refine w_gfi dX0_keep_36 rfl hJ12.1 zs_77 (Nat.le_of_ble_eq_true rfl) zo_77_0 ?_
        intro x16 f17 h18 h19
        replace hb : zHd _ := hb x16.toInt (ziE f17) h18 h19
        refine w_ic dX0_keep_39 zi_1 ?_
        refine w_add dX0_keep_40 (by have := zt_1; omega) ?_
        intro x20 h21
        have := zt_1
        replace hb : zHd _ := hb x20.toInt (by have := zt_1; omega)
        refine w_mnI dX0_keep_41 rfl (Nat.le_of_ble_eq_true rfl) ?_
        intro x22 h23 h24 h25
        have := zt_20
        replace hb : zHd _ := hb x22.toInt (by omega) (by omega) (by omega)
        show ZW _ _ _ _ _ _ _ (44, [some (.ref 77), o19_1, o19_2], [.int x22, .ref 77], M11)
        refine w_pfi dX0_keep_44 rfl hJ12 zs_77 (Nat.le_of_ble_eq_true rfl) zo_77_0 (by omega) (by omega) (zIR_k (by omega) (by omega)) rfl rfl rfl ?_
        intro M26 hJ27 f28 hn29
        replace hb : zHd _ := hb (zi M26) (zi_zup hn29 f28 rfl rfl)
        refine w_en dX0_keep_47 rfl ?_
        exact ⟨_, rfl, hJ27, hb⟩
  have hb : zHd _ := hbE
  show ZW _ _ _ _ _ _ _ (0, [some (.ref 77), some (.ref p0), none], [], M0)
  refine w_lo dX0_keep_0 rfl rfl rfl rfl ?_
  refine w_gf dX0_keep_1 rfl hJ0.1.1 zs_77 (zr_77_2 hJ0.1) ?_
  refine w_lo dX0_keep_4 rfl rfl rfl rfl ?_
  refine w_gfi dX0_keep_5 rfl hJ0.1 zs_77 (Nat.le_of_ble_eq_true rfl) zo_77_1 ?_
  intro x31 f32 h33 h34
  replace hb : zHd _ := hb x31.toInt (ziE f32) h33 h34
  refine w_aai dX0_keep_8 hJ0.1 (by omega) (by omega) ?_
  intro b35 h36 h38 h37
  replace hb : zHd _ := hb b35 (ziRk h37 rfl) (by exact zaai hJ0.1 h37 (by omega) (by omega))
  refine w_lo (ml' := [some (.ref 77), some (.ref p0), some (.ref b35)]) dX0_keep_9 rfl rfl rfl rfl ?_
  refine w_lo dX0_keep_10 rfl rfl rfl rfl ?_
  refine w_br dX0_keep_11 (pc' := 14) rfl rfl rfl ?_
  refine w_lo dX0_keep_14 rfl rfl rfl rfl ?_
  refine w_lo dX0_keep_15 rfl rfl rfl rfl ?_
  refine w_iv dX0_keep_16 rfl rfl (As := [.ref p0]) rfl rfl hJ0.1.1 (zs_6_0 h36) (Nat.le_of_ble_eq_true rfl) ?_
  obtain ⟨P41, hp42, hb⟩ := hb
  replace hb : zHd _ := hb
  refine ZV.imp (u_1542 b35 h36 p0 hp0 hN hJ0.1 hp42) ?_
  rintro _ ⟨M39, rfl, hJ40, hq43⟩
  replace hb : zHd _ := hb  (zi M39) (zi_fr hJ40.2) hq43
  have hJ45 := zJ_trans hJ0 hJ40 (zSub_cons (fun _ _ h h' hk => zIR_s (zIR_e (by omega) (by omega) hk)) (zSub_cons (fun _ _ h h' hk => zIR_s (zIR_s (zIR_s (zIR_e (by omega) (by omega) hk)))) (zSub_cons (fun _ _ h h' hk => zIR_s (zIR_s (zIR_s (zIR_s (zIR_a (by omega) (by omega)))))) (zSub_cons (fun _ _ h h' hk => zIR_s (zIR_s (zIR_s (zIR_s (zIR_s (zIR_e (by omega) (by omega) hk)))))) zSub_nil))))
  show ZW _ _ _ _ _ _ _ (19, [some (.ref 77), some (.ref p0), some (.ref b35)], [], M39)
  obtain ⟨m, hI⟩ := hb
  exact (main m) M39 (some (.ref p0)) (some (.ref b35)) hJ45 hI
set_option maxRecDepth 100000 in
theorem u_3 {X : List Int32} {d N : Nat} {M0 : zM} (p0 : Nat) (hp0 : zRp p0) (hN : N ≤ 600) (hB0 : zB N M0) {Q : Int → zF → Prop} (hb : b_3 p0 (zi M0) Q) : ZV X (d + 3) 3 [.ref 77, .ref p0] M0 (zRI N [(p0, p0 + 1, 0), (p0, p0 + 1, 1), (p0 + 1, p0 + 14, 1000), (p0, p0 + 1, 14), (77, 78, 0), (77, 78, 1)] M0 (0) (1) (fun v M' => Q v.toInt (zi M'))) := by
  have hbp0 := zRp_b hp0
  have hJ0 : zJ N [(p0, p0 + 1, 0), (p0, p0 + 1, 1), (p0 + 1, p0 + 14, 1000), (p0, p0 + 1, 14), (77, 78, 0), (77, 78, 1)] M0 M0 := zJ_refl hB0
  refine ZV.of (ini := false) rfl (Nat.le_of_ble_eq_true rfl) (by decide +kernel) ?_
  unfold b_3 at hb
  replace hb : zHd _ := hb
  show ZW _ _ _ _ _ _ _ (0, [some (.ref 77), some (.ref p0), none], [], M0)
  refine w_lo dX0_takeBack_0 rfl rfl rfl rfl ?_
  refine w_gfi dX0_takeBack_1 rfl hJ0.1 zs_77 (Nat.le_of_ble_eq_true rfl) zo_77_0 ?_
  intro x1 f2 h3 h4
  replace hb : zHd _ := hb x1.toInt (ziE f2) h3 h4
  rcases Int.decEq x1.toInt (0 : Int) with h5 | h5
  · skip
    replace hb : zHd _ := hb.1 h5
    refine w_ine_t dX0_takeBack_4 (t := 9) rfl (by omega) ?_
    refine w_lo dX0_takeBack_9 rfl rfl rfl rfl ?_
    refine w_pu dX0_takeBack_10 rfl rfl ?_
    refine w_gf dX0_takeBack_11 rfl hJ0.1.1 zs_77 f2 ?_
    refine w_ic dX0_takeBack_14 zi_1 ?_
    refine w_sub dX0_takeBack_15 (by have := zt_1; omega) ?_
    intro x6 h7
    have := zt_1
    replace hb : zHd _ := hb x6.toInt (by have := zt_1; omega)
    refine w_pfi dX0_takeBack_16 rfl hJ0 zs_77 (Nat.le_of_ble_eq_true rfl) zo_77_0 (by omega) (by omega) (zIR_s (zIR_s (zIR_s (zIR_s (zIR_k (by omega) (by omega)))))) rfl rfl rfl ?_
    intro M8 hJ9 f10 hn11
    replace hb : zHd _ := hb (zi M8) (zi_zup hn11 f10 rfl rfl)
    refine w_lo dX0_takeBack_19 rfl rfl rfl rfl ?_
    refine w_lo dX0_takeBack_20 rfl rfl rfl rfl ?_
    refine w_gfi dX0_takeBack_21 rfl hJ9.1 zs_77 (Nat.le_of_ble_eq_true rfl) zo_77_1 ?_
    intro x13 f14 h15 h16
    replace hb : zHd _ := hb x13.toInt (ziE f14) h15 h16
    refine w_bi dX0_takeBack_24 (c := 20) (by decide) ?_
    refine w_add dX0_takeBack_26 (by have := zt_20; omega) ?_
    intro x17 h18
    have := zt_20
    replace hb : zHd _ := hb x17.toInt (by have := zt_20; omega)
    refine w_ic dX0_takeBack_27 zi_1 ?_
    refine w_sub dX0_takeBack_28 (by have := zt_1; omega) ?_
    intro x19 h20
    have := zt_1
    replace hb : zHd _ := hb x19.toInt (by have := zt_1; omega)
    refine w_bi dX0_takeBack_29 (c := 20) (by decide) ?_
    refine w_remE dX0_takeBack_31 (by omega) (by have := zt_20; omega) ?_
    intro x21 h22 h23 h24
    have := zt_20
    replace hb : zHd _ := hb x21.toInt h22 (by omega) (by rw [h24, zt_20])
    refine w_pfi dX0_takeBack_32 rfl hJ9 zs_77 (Nat.le_of_ble_eq_true rfl) zo_77_1 (by omega) (by omega) (zIR_s (zIR_s (zIR_s (zIR_s (zIR_s (zIR_k (by omega) (by omega))))))) rfl rfl rfl ?_
    intro M25 hJ26 f27 hn28
    replace hb : zHd _ := hb (zi M25) (zi_zup hn28 f27 rfl rfl)
    refine w_lo dX0_takeBack_35 rfl rfl rfl rfl ?_
    refine w_gf dX0_takeBack_36 rfl hJ26.1.1 zs_77 (zr_77_2 hJ26.1) ?_
    refine w_lo dX0_takeBack_39 rfl rfl rfl rfl ?_
    refine w_gf dX0_takeBack_40 rfl hJ26.1.1 zs_77 f27 ?_
    refine w_aai dX0_takeBack_43 hJ26.1 (by omega) (by omega) ?_
    intro b30 h31 h33 h32
    replace hb : zHd _ := hb b30 (ziRk h32 rfl) (by exact zaai hJ26.1 h32 (by omega) (by omega))
    refine w_lo (ml' := [some (.ref 77), some (.ref p0), some (.ref b30)]) dX0_takeBack_44 rfl rfl rfl rfl ?_
    refine w_lo dX0_takeBack_45 rfl rfl rfl rfl ?_
    refine w_br dX0_takeBack_46 (pc' := 49) rfl rfl rfl ?_
    refine w_lo dX0_takeBack_49 rfl rfl rfl rfl ?_
    refine w_lo dX0_takeBack_50 rfl rfl rfl rfl ?_
    refine w_iv dX0_takeBack_51 rfl rfl (As := [.ref b30]) rfl rfl hJ26.1.1 (zs_6_0 hp0) (Nat.le_of_ble_eq_true rfl) ?_
    obtain ⟨P36, hp37, hb⟩ := hb
    replace hb : zHd _ := hb
    refine ZV.imp (u_1542 p0 hp0 b30 h31 hN hJ26.1 hp37) ?_
    rintro _ ⟨M34, rfl, hJ35, hq38⟩
    replace hb : zHd _ := hb  (zi M34) (zi_fr hJ35.2) hq38
    have hJ40 := zJ_trans hJ26 hJ35 (zSub_cons (fun _ _ h h' hk => zIR_e (by omega) (by omega) hk) (zSub_cons (fun _ _ h h' hk => zIR_s (zIR_e (by omega) (by omega) hk)) (zSub_cons (fun _ _ h h' hk => zIR_s (zIR_s (zIR_a (by omega) (by omega)))) (zSub_cons (fun _ _ h h' hk => zIR_s (zIR_s (zIR_s (zIR_e (by omega) (by omega) hk)))) zSub_nil))))
    show ZW _ _ _ _ _ _ _ (54, [some (.ref 77), some (.ref p0), some (.ref b30)], [], M34)
    refine w_ic dX0_takeBack_54 zi_1 ?_
    refine w_en dX0_takeBack_55 rfl ?_
    exact ⟨_, _, rfl, (by have := zt_1; omega), (by have := zt_1; omega), hJ40, hb⟩
  · skip
    replace hb : zHd _ := hb.2 h5
    refine w_ine_f dX0_takeBack_4 (t := 9) rfl (by omega) ?_
    refine w_ic dX0_takeBack_7 zi_0 ?_
    refine w_en dX0_takeBack_8 rfl ?_
    exact ⟨_, _, rfl, (by have := zt_0; omega), (by have := zt_0; omega), hJ0, hb⟩
set_option maxRecDepth 100000 in
theorem u_1537 {X : List Int32} {d N : Nat} {M0 : zM} (t : Nat) (ht : zRp t) (p0 : Nat) (hp0 : zDm p0) (hN : N ≤ 600) (hB0 : zB N M0) {Q : zF → Prop} (hb : b_1537 t p0 (zi M0) Q) : ZV X (d + 1) 1537 [.ref t, .ref p0] M0 (zRV N [(t, t + 1, 0), (t, t + 1, 1), (t + 1, t + 13, 1000), (t, t + 1, 14)] M0 (fun M' => Q (zi M'))) := by
  have hbp0 := zDm_b hp0
  have hbt := zRp_b ht
  have hJ0 : zJ N [(t, t + 1, 0), (t, t + 1, 1), (t + 1, t + 13, 1000), (t, t + 1, 14)] M0 M0 := zJ_refl hB0
  refine ZV.of (ini := false) rfl (Nat.le_of_ble_eq_true rfl) (by decide +kernel) ?_
  obtain ⟨I20, I104, hbE, hb20, hb104⟩ := hb
  replace hbE : zHd _ := hbE
  replace hb20 : zHd _ := hb20
  replace hb104 : zHd _ := hb104
  have main : ∀ n : Nat,
      (∀ (M : zM) (v20_2 : Int32), zJ N [(t, t + 1, 0), (t, t + 1, 1), (t + 1, t + 13, 1000), (t, t + 1, 14)] M0 M → ((0 : Int) ≤ v20_2.toInt) → (v20_2.toInt ≤ 12) → I20 n (zi M) v20_2.toInt → ZW X (d + 0) 6 false none cX6_begin (zRV N [(t, t + 1, 0), (t, t + 1, 1), (t + 1, t + 13, 1000), (t, t + 1, 14)] M0 (fun M' => Q (zi M'))) (20, [some (.ref t), some (.ref p0), some (.int v20_2)], [], M)) ∧
      (∀ (M : zM) (v104_2 : Int32), zJ N [(t, t + 1, 0), (t, t + 1, 1), (t + 1, t + 13, 1000), (t, t + 1, 14)] M0 M → ((0 : Int) ≤ v104_2.toInt) → (v104_2.toInt ≤ 11) → I104 n (zi M) v104_2.toInt → ZW X (d + 0) 6 false none cX6_begin (zRV N [(t, t + 1, 0), (t, t + 1, 1), (t + 1, t + 13, 1000), (t, t + 1, 14)] M0 (fun M' => Q (zi M'))) (104, [some (.ref t), some (.ref p0), some (.int v104_2)], [], M)) := by
    intro n
    induction n using Nat.strongRecOn with
    | _ n ih =>
      refine ⟨?_, ?_⟩
      · intro M v20_2 hJ v20_20 v20_21 hI
        have hb : zHd _ := hb20 n (zi M) v20_2.toInt (zi_fr hJ.2) v20_20 v20_21 hI
        refine w_lo dX6_begin_20 rfl rfl rfl rfl ?_
        refine w_bi dX6_begin_21 (c := 12) (by decide) ?_
        rcases zcut v20_2.toInt (12 : Int) with h1 | h1
        · skip
          replace hb : zHd _ := hb.1 h1
          refine w_cge_f dX6_begin_23 (t := 102) rfl (by have := zt_12; omega) ?_
          refine w_lo dX6_begin_26 rfl rfl rfl rfl ?_
          refine w_gf dX6_begin_27 rfl hJ.1.1 (zs_6_0 ht) (zr_6_0_2 ht hJ.1) ?_
          refine w_lo dX6_begin_30 rfl rfl rfl rfl ?_
          refine w_lo dX6_begin_31 rfl rfl rfl rfl ?_
          refine w_isi dX6_begin_32 hJ (zs_6_1 ht) (by omega) (by omega) (zu_6_1 ht) (by omega) (by omega) (zIR_s (zIR_s (zIR_a (by omega) (by omega)))) ?_
          intro M2 hJ3 f4 hn5
          replace hb : zHd _ := hb (zi M2) (zi_zup hn5 f4 rfl rfl)
          refine w_lo dX6_begin_33 rfl rfl rfl rfl ?_
          refine w_gf dX6_begin_34 rfl hJ3.1.1 (zs_6_0 ht) (zr_6_0_3 ht hJ3.1) ?_
          refine w_lo dX6_begin_37 rfl rfl rfl rfl ?_
          refine w_ic dX6_begin_38 zi_1 ?_
          refine w_bsi dX6_begin_39 hJ3 (zs_6_2 ht) (by omega) (by omega) (zu_6_2 ht) (by have := zt_1; omega) (by have := zt_1; omega) (zIR_s (zIR_s (zIR_a (by omega) (by omega)))) ?_
          intro M7 hJ8 f9 hn10
          replace hb : zHd _ := hb (zi M7) (zi_zup hn10 f9 rfl zt_1)
          refine w_lo dX6_begin_40 rfl rfl rfl rfl ?_
          refine w_gf dX6_begin_41 rfl hJ8.1.1 (zs_6_0 ht) (zr_6_0_4 ht hJ8.1) ?_
          refine w_lo dX6_begin_44 rfl rfl rfl rfl ?_
          refine w_ic dX6_begin_45 zi_m1 ?_
          refine w_isi dX6_begin_46 hJ8 (zs_6_3 ht) (by omega) (by omega) (zu_6_3 ht) (by have := zt_m1; omega) (by have := zt_m1; omega) (zIR_s (zIR_s (zIR_a (by omega) (by omega)))) ?_
          intro M12 hJ13 f14 hn15
          replace hb : zHd _ := hb (zi M12) (zi_zup hn15 f14 rfl zt_m1)
          refine w_lo dX6_begin_47 rfl rfl rfl rfl ?_
          refine w_gf dX6_begin_48 rfl hJ13.1.1 (zs_6_0 ht) (zr_6_0_5 ht hJ13.1) ?_
          refine w_lo dX6_begin_51 rfl rfl rfl rfl ?_
          refine w_ic dX6_begin_52 zi_0 ?_
          refine w_isi dX6_begin_53 hJ13 (zs_6_4 ht) (by omega) (by omega) (zu_6_4 ht) (zbot _) (ztop _) (zIR_s (zIR_s (zIR_a (by omega) (by omega)))) ?_
          intro M17 hJ18 f19 hn20
          replace hb : zHd _ := hb (zi M17) (zi_zup hn20 f19 rfl zt_0)
          refine w_lo dX6_begin_54 rfl rfl rfl rfl ?_
          refine w_gf dX6_begin_55 rfl hJ18.1.1 (zs_6_0 ht) (zr_6_0_6 ht hJ18.1) ?_
          refine w_lo dX6_begin_58 rfl rfl rfl rfl ?_
          refine w_ic dX6_begin_59 zi_m1 ?_
          refine w_isi dX6_begin_60 hJ18 (zs_6_5 ht) (by omega) (by omega) (zu_6_5 ht) (by have := zt_m1; omega) (by have := zt_m1; omega) (zIR_s (zIR_s (zIR_a (by omega) (by omega)))) ?_
          intro M22 hJ23 f24 hn25
          replace hb : zHd _ := hb (zi M22) (zi_zup hn25 f24 rfl zt_m1)
          refine w_lo dX6_begin_61 rfl rfl rfl rfl ?_
          refine w_gf dX6_begin_62 rfl hJ23.1.1 (zs_6_0 ht) (zr_6_0_7 ht hJ23.1) ?_
          refine w_lo dX6_begin_65 rfl rfl rfl rfl ?_
          refine w_ic dX6_begin_66 zi_0 ?_
          refine w_isi dX6_begin_67 hJ23 (zs_6_6 ht) (by omega) (by omega) (zu_6_6 ht) (zbot _) (ztop _) (zIR_s (zIR_s (zIR_a (by omega) (by omega)))) ?_
          intro M27 hJ28 f29 hn30
          replace hb : zHd _ := hb (zi M27) (zi_zup hn30 f29 rfl zt_0)
          refine w_lo dX6_begin_68 rfl rfl rfl rfl ?_
          refine w_gf dX6_begin_69 rfl hJ28.1.1 (zs_6_0 ht) (zr_6_0_8 ht hJ28.1) ?_
          refine w_lo dX6_begin_72 rfl rfl rfl rfl ?_
          refine w_ic dX6_begin_73 zi_m1 ?_
          refine w_isi dX6_begin_74 hJ28 (zs_6_7 ht) (by omega) (by omega) (zu_6_7 ht) (by have := zt_m1; omega) (by have := zt_m1; omega) (zIR_s (zIR_s (zIR_a (by omega) (by omega)))) ?_
          intro M32 hJ33 f34 hn35
          replace hb : zHd _ := hb (zi M32) (zi_zup hn35 f34 rfl zt_m1)
          refine w_lo dX6_begin_75 rfl rfl rfl rfl ?_
          refine w_gf dX6_begin_76 rfl hJ33.1.1 (zs_6_0 ht) (zr_6_0_9 ht hJ33.1) ?_
          refine w_lo dX6_begin_79 rfl rfl rfl rfl ?_
          refine w_ic dX6_begin_80 zi_0 ?_
          refine w_isi dX6_begin_81 hJ33 (zs_6_8 ht) (by omega) (by omega) (zu_6_8 ht) (zbot _) (ztop _) (zIR_s (zIR_s (zIR_a (by omega) (by omega)))) ?_
          intro M37 hJ38 f39 hn40
          replace hb : zHd _ := hb (zi M37) (zi_zup hn40 f39 rfl zt_0)
          refine w_lo dX6_begin_82 rfl rfl rfl rfl ?_
          refine w_gf dX6_begin_83 rfl hJ38.1.1 (zs_6_0 ht) (zr_6_0_10 ht hJ38.1) ?_
          refine w_lo dX6_begin_86 rfl rfl rfl rfl ?_
          refine w_ic dX6_begin_87 zi_0 ?_
          refine w_isi dX6_begin_88 hJ38 (zs_6_9 ht) (by omega) (by omega) (zu_6_9 ht) (by have := zt_0; omega) (ztop _) (zIR_s (zIR_s (zIR_a (by omega) (by omega)))) ?_
          intro M42 hJ43 f44 hn45
          replace hb : zHd _ := hb (zi M42) (zi_zup hn45 f44 rfl zt_0)
          refine w_lo dX6_begin_89 rfl rfl rfl rfl ?_
          refine w_gf dX6_begin_90 rfl hJ43.1.1 (zs_6_0 ht) (zr_6_0_11 ht hJ43.1) ?_
          refine w_lo dX6_begin_93 rfl rfl rfl rfl ?_
          refine w_ic dX6_begin_94 zi_0 ?_
          refine w_isi dX6_begin_95 hJ43 (zs_6_10 ht) (by omega) (by omega) (zu_6_10 ht) (zbot _) (by have := zt_0; omega) (zIR_s (zIR_s (zIR_a (by omega) (by omega)))) ?_
          intro M47 hJ48 f49 hn50
          replace hb : zHd _ := hb (zi M47) (zi_zup hn50 f49 rfl zt_0)
          refine w_inc (kk := 2) dX6_begin_96 rfl (m := 1) (by decide) (by omega) ?_
          intro x52 h53
          refine ⟨_, rfl, ?_⟩
          replace hb : zHd _ := hb x52.toInt h53
          show ZW _ _ _ _ _ _ _ (99, [some (.ref t), some (.ref p0), some (.int x52)], [], M47)
          refine w_gt dX6_begin_99 (t := 20) rfl ?_
          obtain ⟨m, hm, hI⟩ := hb
          exact (ih m hm).1 M47 x52 hJ48 (by omega) (by omega) hI
        · skip
          replace hb : zHd _ := hb.2 h1
          refine w_cge_t dX6_begin_23 (t := 102) rfl (by have := zt_12; omega) ?_
          refine w_ic dX6_begin_102 zi_0 ?_
          refine w_lo (ml' := [some (.ref t), some (.ref p0), some (.int 0)]) dX6_begin_103 rfl rfl rfl rfl ?_
          obtain ⟨m, hm, hI⟩ := hb
          exact (ih m hm).2 M 0 hJ (by have := zt_0; omega) (by have := zt_0; omega) hI
      · intro M v104_2 hJ v104_20 v104_21 hI
        have hb : zHd _ := hb104 n (zi M) v104_2.toInt (zi_fr hJ.2) v104_20 v104_21 hI
        refine w_lo dX6_begin_104 rfl rfl rfl rfl ?_
        refine w_bi dX6_begin_105 (c := 11) (by decide) ?_
        rcases zcut v104_2.toInt (11 : Int) with h54 | h54
        · skip
          replace hb : zHd _ := hb.1 h54
          refine w_cge_f dX6_begin_107 (t := 135) rfl (by have := zt_11; omega) ?_
          refine w_lo dX6_begin_110 rfl rfl rfl rfl ?_
          refine w_gf dX6_begin_111 rfl hJ.1.1 (zs_6_0 ht) (zr_6_0_12 ht hJ.1) ?_
          refine w_lo dX6_begin_114 rfl rfl rfl rfl ?_
          refine w_ic dX6_begin_115 zi_1 ?_
          refine w_bsi dX6_begin_116 hJ (zs_6_11 ht) (by omega) (by omega) (zu_6_11 ht) (by have := zt_1; omega) (by have := zt_1; omega) (zIR_s (zIR_s (zIR_a (by omega) (by omega)))) ?_
          intro M55 hJ56 f57 hn58
          replace hb : zHd _ := hb (zi M55) (zi_zup hn58 f57 rfl zt_1)
          refine w_lo dX6_begin_117 rfl rfl rfl rfl ?_
          refine w_gf dX6_begin_118 rfl hJ56.1.1 (zs_6_0 ht) (zr_6_0_13 ht hJ56.1) ?_
          refine w_lo dX6_begin_121 rfl rfl rfl rfl ?_
          refine w_lo dX6_begin_122 rfl rfl rfl rfl ?_
          refine w_gf dX6_begin_123 rfl hJ56.1.1 (zs_1_0 hp0) (zr_1_0_14 hp0 hJ56.1) ?_
          refine w_lo dX6_begin_126 rfl rfl rfl rfl ?_
          refine w_iai dX6_begin_127 hJ56.1 (zs_1_12 hp0) (by omega) (by omega) (zu_1_12 hp0) ?_
          intro x63 f60 h61 h62
          replace hb : zHd _ := hb x63.toInt (ziEk f60 rfl) h61 h62
          refine w_isi dX6_begin_128 hJ56 (zs_6_12 ht) (by omega) (by omega) (zu_6_12 ht) (by omega) (by omega) (zIR_s (zIR_s (zIR_a (by omega) (by omega)))) ?_
          intro M64 hJ65 f66 hn67
          replace hb : zHd _ := hb (zi M64) (zi_zup hn67 f66 rfl rfl)
          refine w_inc (kk := 2) dX6_begin_129 rfl (m := 1) (by decide) (by omega) ?_
          intro x69 h70
          refine ⟨_, rfl, ?_⟩
          replace hb : zHd _ := hb x69.toInt h70
          show ZW _ _ _ _ _ _ _ (132, [some (.ref t), some (.ref p0), some (.int x69)], [], M64)
          refine w_gt dX6_begin_132 (t := 104) rfl ?_
          obtain ⟨m, hm, hI⟩ := hb
          exact (ih m hm).2 M64 x69 hJ65 (by omega) (by omega) hI
        · skip
          replace hb : zHd _ := hb.2 h54
          refine w_cge_t dX6_begin_107 (t := 135) rfl (by have := zt_11; omega) ?_
          refine w_en dX6_begin_135 rfl ?_
          exact ⟨_, rfl, hJ, hb⟩
  have hb : zHd _ := hbE
  show ZW _ _ _ _ _ _ _ (0, [some (.ref t), some (.ref p0), none], [], M0)
  refine w_lo dX6_begin_0 rfl rfl rfl rfl ?_
  refine w_lo dX6_begin_1 rfl rfl rfl rfl ?_
  refine w_gfi dX6_begin_2 rfl hJ0.1 (zs_1_0 hp0) (Nat.le_of_ble_eq_true rfl) (zo_1_0_1 hp0) ?_
  intro x71 f72 h73 h74
  replace hb : zHd _ := hb x71.toInt (ziE f72) h73 h74
  refine w_pfi dX6_begin_5 rfl hJ0 (zs_6_0 ht) (Nat.le_of_ble_eq_true rfl) (zo_6_0_0 ht) (by omega) (by omega) (zIR_k (by omega) (by omega)) rfl rfl rfl ?_
  intro M75 hJ76 f77 hn78
  replace hb : zHd _ := hb (zi M75) (zi_zup hn78 f77 rfl rfl)
  refine w_lo dX6_begin_8 rfl rfl rfl rfl ?_
  refine w_ic dX6_begin_9 zi_0 ?_
  refine w_pfi dX6_begin_10 rfl hJ76 (zs_6_0 ht) (Nat.le_of_ble_eq_true rfl) (zo_6_0_1 ht) (zbot _) (ztop _) (zIR_s (zIR_k (by omega) (by omega))) rfl rfl rfl ?_
  intro M80 hJ81 f82 hn83
  replace hb : zHd _ := hb (zi M80) (zi_zup hn83 f82 rfl zt_0)
  refine w_lo dX6_begin_13 rfl rfl rfl rfl ?_
  refine w_ic dX6_begin_14 zi_0 ?_
  refine w_pfc dX6_begin_15 rfl hJ81 (zs_6_0 ht) (Nat.le_of_ble_eq_true rfl) (zo_6_0_14 ht) (by have := zt_0; omega) (by have := zt_0; omega) (zIR_s (zIR_s (zIR_s (zIR_k (by omega) (by omega))))) rfl rfl rfl ?_
  intro M85 hJ86 f87 hn88
  replace hb : zHd _ := hb (zi M85) (zi_zup hn88 f87 rfl zt_0)
  refine w_ic dX6_begin_18 zi_0 ?_
  refine w_lo (ml' := [some (.ref t), some (.ref p0), some (.int 0)]) dX6_begin_19 rfl rfl rfl rfl ?_
  obtain ⟨m, hI⟩ := hb
  exact (main m).1 M85 0 hJ86 (by have := zt_0; omega) (by have := zt_0; omega) hI
set_option maxRecDepth 100000 in
theorem u_2053 {X : List Int32} {d N : Nat} {M0 : zM}  (hN : N ≤ 600) (hB0 : zB N M0) {Q : Int → zF → Prop} (hb : b_2053 (zi M0) Q) : ZV X (d + 24) 2053 [.ref 0] M0 (zRI N [(2, 3, 0), (7, 8, 0), (20, 21, 0), (28, 29, 0), (41, 42, 0), (49, 50, 0), (77, 78, 0), (0, 1, 1), (2, 3, 1), (7, 8, 1), (20, 21, 1), (28, 29, 1), (41, 42, 1), (49, 50, 1), (2, 3, 10), (4, 7, 1000), (8, 20, 1000), (21, 26, 1000), (29, 41, 1000), (42, 47, 1000), (50, 62, 1000), (385, 386, 1000), (0, 1, 11), (49, 50, 14), (0, 1, 15), (7, 8, 2), (28, 29, 2), (0, 1, 3), (2, 3, 6), (2, 3, 7), (2, 3, 8), (2, 3, 9)] M0 (-1) (90) (fun v M' => Q v.toInt (zi M'))) := by
  have hJ0 : zJ N [(2, 3, 0), (7, 8, 0), (20, 21, 0), (28, 29, 0), (41, 42, 0), (49, 50, 0), (77, 78, 0), (0, 1, 1), (2, 3, 1), (7, 8, 1), (20, 21, 1), (28, 29, 1), (41, 42, 1), (49, 50, 1), (2, 3, 10), (4, 7, 1000), (8, 20, 1000), (21, 26, 1000), (29, 41, 1000), (42, 47, 1000), (50, 62, 1000), (385, 386, 1000), (0, 1, 11), (49, 50, 14), (0, 1, 15), (7, 8, 2), (28, 29, 2), (0, 1, 3), (2, 3, 6), (2, 3, 7), (2, 3, 8), (2, 3, 9)] M0 M0 := zJ_refl hB0
  refine ZV.of (ini := false) rfl (Nat.le_of_ble_eq_true rfl) (by decide +kernel) ?_
  unfold b_2053 at hb
  replace hb : zHd _ := hb
  show ZW _ _ _ _ _ _ _ (0, [some (.ref 0), none, none], [], M0)
  refine w_lo dX8_dorm_0 rfl rfl rfl rfl ?_
  refine w_gfi dX8_dorm_1 rfl hJ0.1 zs_0 (Nat.le_of_ble_eq_true rfl) zo_0_1 ?_
  intro x1 f2 h3 h4
  replace hb : zHd _ := hb x1.toInt (ziE f2) h3 h4
  refine w_lo (ml' := [some (.ref 0), some (.int x1), none]) dX8_dorm_4 rfl rfl rfl rfl ?_
  refine w_lo dX8_dorm_5 rfl rfl rfl rfl ?_
  refine w_ic dX8_dorm_6 zi_0 ?_
  refine w_pfi dX8_dorm_7 rfl hJ0 zs_0 (Nat.le_of_ble_eq_true rfl) zo_0_1 (by have := zt_0; omega) (by have := zt_0; omega) (zIR_s (zIR_s (zIR_s (zIR_s (zIR_s (zIR_s (zIR_s (zIR_k (by omega) (by omega))))))))) rfl rfl rfl ?_
  intro M5 hJ6 f7 hn8
  replace hb : zHd _ := hb (zi M5) (zi_zup hn8 f7 rfl zt_0)
  refine w_lo dX8_dorm_10 rfl rfl rfl rfl ?_
  refine w_gf dX8_dorm_11 rfl hJ6.1.1 zs_0 (zr_0_2 hJ6.1) ?_
  refine w_lo dX8_dorm_14 rfl rfl rfl rfl ?_
  refine w_gf dX8_dorm_15 rfl hJ6.1.1 zs_0 (zr_0_0 hJ6.1) ?_
  refine w_lo dX8_dorm_18 rfl rfl rfl rfl ?_
  refine w_iv dX8_dorm_19 rfl rfl (As := [.ref 1, .int x1]) rfl rfl hJ6.1.1 zs_2 (Nat.le_of_ble_eq_true rfl) ?_
  obtain ⟨P12, hp13, hb⟩ := hb
  replace hb : zHd _ := hb
  obtain ⟨q14, hq15, hd16⟩ := zd_2_8 hJ6.1
  replace hb : zHd _ := hb q14 (ziR hq15) (zDm_or hd16)
  refine ZV.imp (kq_1281 (zDm_or hd16) hq15 x1 (by omega) (by omega) hN hJ6.1 (u_1281 x1 (by omega) (by omega) hN hJ6.1 hp13)) ?_
  rintro _ ⟨⟨x19, M10, rfl, h20, h21, hJ11, hq18⟩, hf17⟩
  replace hb : zHd _ := hb x19.toInt h20 h21 (zi M10) (zi_fr hJ11.2) hq18 (fun a k h => zi_vl (hf17 a k h))
  have hJ23 := zJ_trans hJ6 hJ11 (zSub_cons (fun _ _ h h' hk => zIR_e (by omega) (by omega) hk) (zSub_cons (fun _ _ h h' hk => zIR_s (zIR_e (by omega) (by omega) hk)) (zSub_cons (fun _ _ h h' hk => zIR_s (zIR_s (zIR_e (by omega) (by omega) hk))) (zSub_cons (fun _ _ h h' hk => zIR_s (zIR_s (zIR_s (zIR_e (by omega) (by omega) hk)))) (zSub_cons (fun _ _ h h' hk => zIR_s (zIR_s (zIR_s (zIR_s (zIR_e (by omega) (by omega) hk))))) (zSub_cons (fun _ _ h h' hk => zIR_s (zIR_s (zIR_s (zIR_s (zIR_s (zIR_s (zIR_s (zIR_s (zIR_e (by omega) (by omega) hk))))))))) (zSub_cons (fun _ _ h h' hk => zIR_s (zIR_s (zIR_s (zIR_s (zIR_s (zIR_s (zIR_s (zIR_s (zIR_s (zIR_e (by omega) (by omega) hk)))))))))) (zSub_cons (fun _ _ h h' hk => zIR_s (zIR_s (zIR_s (zIR_s (zIR_s (zIR_s (zIR_s (zIR_s (zIR_s (zIR_s (zIR_e (by omega) (by omega) hk))))))))))) (zSub_cons (fun _ _ h h' hk => zIR_s (zIR_s (zIR_s (zIR_s (zIR_s (zIR_s (zIR_s (zIR_s (zIR_s (zIR_s (zIR_s (zIR_e (by omega) (by omega) hk)))))))))))) (zSub_cons (fun _ _ h h' hk => zIR_s (zIR_s (zIR_s (zIR_s (zIR_s (zIR_s (zIR_s (zIR_s (zIR_s (zIR_s (zIR_s (zIR_s (zIR_e (by omega) (by omega) hk))))))))))))) (zSub_cons (fun _ _ h h' hk => zIR_s (zIR_s (zIR_s (zIR_s (zIR_s (zIR_s (zIR_s (zIR_s (zIR_s (zIR_s (zIR_s (zIR_s (zIR_s (zIR_s (zIR_e (by omega) (by omega) hk))))))))))))))) (zSub_cons (fun _ _ h h' hk => zIR_s (zIR_s (zIR_s (zIR_s (zIR_s (zIR_s (zIR_s (zIR_s (zIR_s (zIR_s (zIR_s (zIR_s (zIR_s (zIR_s (zIR_s (zIR_a (by omega) (by omega))))))))))))))))) (zSub_cons (fun _ _ h h' hk => zIR_s (zIR_s (zIR_s (zIR_s (zIR_s (zIR_s (zIR_s (zIR_s (zIR_s (zIR_s (zIR_s (zIR_s (zIR_s (zIR_s (zIR_s (zIR_s (zIR_a (by omega) (by omega)))))))))))))))))) (zSub_cons (fun _ _ h h' hk => zIR_s (zIR_s (zIR_s (zIR_s (zIR_s (zIR_s (zIR_s (zIR_s (zIR_s (zIR_s (zIR_s (zIR_s (zIR_s (zIR_s (zIR_s (zIR_s (zIR_s (zIR_a (by omega) (by omega))))))))))))))))))) (zSub_cons (fun _ _ h h' hk => zIR_s (zIR_s (zIR_s (zIR_s (zIR_s (zIR_s (zIR_s (zIR_s (zIR_s (zIR_s (zIR_s (zIR_s (zIR_s (zIR_s (zIR_s (zIR_s (zIR_s (zIR_s (zIR_a (by omega) (by omega)))))))))))))))))))) (zSub_cons (fun _ _ h h' hk => zIR_s (zIR_s (zIR_s (zIR_s (zIR_s (zIR_s (zIR_s (zIR_s (zIR_s (zIR_s (zIR_s (zIR_s (zIR_s (zIR_s (zIR_s (zIR_s (zIR_s (zIR_s (zIR_s (zIR_a (by omega) (by omega))))))))))))))))))))) (zSub_cons (fun _ _ h h' hk => zIR_s (zIR_s (zIR_s (zIR_s (zIR_s (zIR_s (zIR_s (zIR_s (zIR_s (zIR_s (zIR_s (zIR_s (zIR_s (zIR_s (zIR_s (zIR_s (zIR_s (zIR_s (zIR_s (zIR_s (zIR_s (zIR_s (zIR_s (zIR_s (zIR_s (zIR_e (by omega) (by omega) hk)))))))))))))))))))))))))) (zSub_cons (fun _ _ h h' hk => zIR_s (zIR_s (zIR_s (zIR_s (zIR_s (zIR_s (zIR_s (zIR_s (zIR_s (zIR_s (zIR_s (zIR_s (zIR_s (zIR_s (zIR_s (zIR_s (zIR_s (zIR_s (zIR_s (zIR_s (zIR_s (zIR_s (zIR_s (zIR_s (zIR_s (zIR_s (zIR_e (by omega) (by omega) hk))))))))))))))))))))))))))) (zSub_cons (fun _ _ h h' hk => zIR_s (zIR_s (zIR_s (zIR_s (zIR_s (zIR_s (zIR_s (zIR_s (zIR_s (zIR_s (zIR_s (zIR_s (zIR_s (zIR_s (zIR_s (zIR_s (zIR_s (zIR_s (zIR_s (zIR_s (zIR_s (zIR_s (zIR_s (zIR_s (zIR_s (zIR_s (zIR_s (zIR_s (zIR_e (by omega) (by omega) hk))))))))))))))))))))))))))))) (zSub_cons (fun _ _ h h' hk => zIR_s (zIR_s (zIR_s (zIR_s (zIR_s (zIR_s (zIR_s (zIR_s (zIR_s (zIR_s (zIR_s (zIR_s (zIR_s (zIR_s (zIR_s (zIR_s (zIR_s (zIR_s (zIR_s (zIR_s (zIR_s (zIR_s (zIR_s (zIR_s (zIR_s (zIR_s (zIR_s (zIR_s (zIR_s (zIR_e (by omega) (by omega) hk)))))))))))))))))))))))))))))) (zSub_cons (fun _ _ h h' hk => zIR_s (zIR_s (zIR_s (zIR_s (zIR_s (zIR_s (zIR_s (zIR_s (zIR_s (zIR_s (zIR_s (zIR_s (zIR_s (zIR_s (zIR_s (zIR_s (zIR_s (zIR_s (zIR_s (zIR_s (zIR_s (zIR_s (zIR_s (zIR_s (zIR_s (zIR_s (zIR_s (zIR_s (zIR_s (zIR_s (zIR_s (zIR_e (by omega) (by omega) hk)))))))))))))))))))))))))))))))) zSub_nil)))))))))))))))))))))
  show ZW _ _ _ _ _ _ _ (22, [some (.ref 0), some (.int x1), none], [.int x19], M10)
  rcases Int.decEq x19.toInt (0 : Int) with h24 | h24
  · skip
    replace hb : zHd _ := hb.1 h24
    refine w_ine_t dX8_dorm_22 (t := 32) rfl (by omega) ?_
    refine w_lo dX8_dorm_32 rfl rfl rfl rfl ?_
    obtain ⟨b25, f26, h27⟩ := zd_0_3 hJ23.1
    have h28 := zDm_b h27
    refine w_gf dX8_dorm_33 rfl hJ23.1.1 zs_0 f26 ?_
    replace hb : zHd _ := hb b25 (ziR f26) (zDm_or h27)
    refine w_lo (ml' := [some (.ref 0), some (.int x1), some (.ref b25)]) dX8_dorm_36 rfl rfl rfl rfl ?_
    refine w_lo dX8_dorm_37 rfl rfl rfl rfl ?_
    refine w_lo dX8_dorm_38 rfl rfl rfl rfl ?_
    refine w_gf dX8_dorm_39 rfl hJ23.1.1 zs_0 (zr_0_2 hJ23.1) ?_
    obtain ⟨b29, f30, h31⟩ := zd_2_8 hJ23.1
    have h32 := zDm_b h31
    refine w_gf dX8_dorm_42 rfl hJ23.1.1 zs_2 f30 ?_
    replace hb : zHd _ := hb b29 (ziR f30) (zDm_or h31)
    refine w_pfd dX8_dorm_45 rfl hJ23 zs_0 (Nat.le_of_ble_eq_true rfl) zo_0_3 (zDm_or h31) (zIR_s (zIR_s (zIR_s (zIR_s (zIR_s (zIR_s (zIR_s (zIR_s (zIR_s (zIR_s (zIR_s (zIR_s (zIR_s (zIR_s (zIR_s (zIR_s (zIR_s (zIR_s (zIR_s (zIR_s (zIR_s (zIR_s (zIR_s (zIR_s (zIR_s (zIR_s (zIR_s (zIR_k (by omega) (by omega))))))))))))))))))))))))))))) rfl rfl rfl ?_
    intro M33 hJ34 f35 hn36
    replace hb : zHd _ := hb (zi M33) (zi_zupR hn36 f35 rfl)
    refine w_lo dX8_dorm_48 rfl rfl rfl rfl ?_
    refine w_gf dX8_dorm_49 rfl hJ34.1.1 zs_0 (zr_0_2 hJ34.1) ?_
    refine w_lo dX8_dorm_52 rfl rfl rfl rfl ?_
    refine w_pfd dX8_dorm_53 rfl hJ34 zs_2 (Nat.le_of_ble_eq_true rfl) zo_2_8 (zDm_or h27) (zIR_s (zIR_s (zIR_s (zIR_s (zIR_s (zIR_s (zIR_s (zIR_s (zIR_s (zIR_s (zIR_s (zIR_s (zIR_s (zIR_s (zIR_s (zIR_s (zIR_s (zIR_s (zIR_s (zIR_s (zIR_s (zIR_s (zIR_s (zIR_s (zIR_s (zIR_s (zIR_s (zIR_s (zIR_s (zIR_s (zIR_k (by omega) (by omega)))))))))))))))))))))))))))))))) rfl rfl rfl ?_
    intro M38 hJ39 f40 hn41
    replace hb : zHd _ := hb (zi M38) (zi_zupR hn41 f40 rfl)
    refine w_lo dX8_dorm_56 rfl rfl rfl rfl ?_
    refine w_gf dX8_dorm_57 rfl hJ39.1.1 zs_0 (zr_0_4 hJ39.1) ?_
    refine w_lo dX8_dorm_60 rfl rfl rfl rfl ?_
    have f43 := (hn41 (0) 3 (Or.inr (by decide))).trans (f35)
    refine w_gf dX8_dorm_61 rfl hJ39.1.1 zs_0 f43 ?_
    refine w_iv dX8_dorm_64 rfl rfl (As := [.ref b29]) rfl rfl hJ39.1.1 zs_49 (Nat.le_of_ble_eq_true rfl) ?_
    obtain ⟨P46, hp47, hb⟩ := hb
    replace hb : zHd _ := hb
    refine ZV.imp (u_1537 49 hb_6_49 b29 h31 hN hJ39.1 hp47) ?_
    rintro _ ⟨M44, rfl, hJ45, hq48⟩
    replace hb : zHd _ := hb  (zi M44) (zi_fr hJ45.2) hq48
    have hJ50 := zJ_trans hJ39 hJ45 (zSub_cons (fun _ _ h h' hk => zIR_s (zIR_s (zIR_s (zIR_s (zIR_s (zIR_e (by omega) (by omega) hk)))))) (zSub_cons (fun _ _ h h' hk => zIR_s (zIR_s (zIR_s (zIR_s (zIR_s (zIR_s (zIR_s (zIR_s (zIR_s (zIR_s (zIR_s (zIR_s (zIR_s (zIR_e (by omega) (by omega) hk)))))))))))))) (zSub_cons (fun _ _ h h' hk => zIR_s (zIR_s (zIR_s (zIR_s (zIR_s (zIR_s (zIR_s (zIR_s (zIR_s (zIR_s (zIR_s (zIR_s (zIR_s (zIR_s (zIR_s (zIR_s (zIR_s (zIR_s (zIR_s (zIR_s (zIR_a (by omega) (by omega)))))))))))))))))))))) (zSub_cons (fun _ _ h h' hk => zIR_s (zIR_s (zIR_s (zIR_s (zIR_s (zIR_s (zIR_s (zIR_s (zIR_s (zIR_s (zIR_s (zIR_s (zIR_s (zIR_s (zIR_s (zIR_s (zIR_s (zIR_s (zIR_s (zIR_s (zIR_s (zIR_s (zIR_s (zIR_e (by omega) (by omega) hk)))))))))))))))))))))))) zSub_nil))))
    show ZW _ _ _ _ _ _ _ (67, [some (.ref 0), some (.int x1), some (.ref b25)], [], M44)
    refine w_lo dX8_dorm_67 rfl rfl rfl rfl ?_
    refine w_gf dX8_dorm_68 rfl hJ50.1.1 zs_0 (zr_0_6 hJ50.1) ?_
    refine w_iv dX8_dorm_71 rfl rfl (As := []) rfl rfl hJ50.1.1 zs_77 (Nat.le_of_ble_eq_true rfl) ?_
    obtain ⟨P53, hp54, hb⟩ := hb
    replace hb : zHd _ := hb
    refine ZV.imp (u_1 hN hJ50.1 hp54) ?_
    rintro _ ⟨M51, rfl, hJ52, hq55⟩
    replace hb : zHd _ := hb  (zi M51) (zi_fr hJ52.2) hq55
    have hJ57 := zJ_trans hJ50 hJ52 (zSub_cons (fun _ _ h h' hk => zIR_s (zIR_s (zIR_s (zIR_s (zIR_s (zIR_s (zIR_e (by omega) (by omega) hk))))))) zSub_nil)
    show ZW _ _ _ _ _ _ _ (74, [some (.ref 0), some (.int x1), some (.ref b25)], [], M51)
    refine w_lo dX8_dorm_74 rfl rfl rfl rfl ?_
    refine w_ic dX8_dorm_75 zi_0 ?_
    refine w_pfi dX8_dorm_76 rfl hJ57 zs_0 (Nat.le_of_ble_eq_true rfl) zo_0_11 (by have := zt_0; omega) (by have := zt_0; omega) (zIR_s (zIR_s (zIR_s (zIR_s (zIR_s (zIR_s (zIR_s (zIR_s (zIR_s (zIR_s (zIR_s (zIR_s (zIR_s (zIR_s (zIR_s (zIR_s (zIR_s (zIR_s (zIR_s (zIR_s (zIR_s (zIR_s (zIR_k (by omega) (by omega)))))))))))))))))))))))) rfl rfl rfl ?_
    intro M58 hJ59 f60 hn61
    replace hb : zHd _ := hb (zi M58) (zi_zup hn61 f60 rfl zt_0)
    refine w_lo dX8_dorm_79 rfl rfl rfl rfl ?_
    refine w_pu dX8_dorm_80 rfl rfl ?_
    refine w_gfi dX8_dorm_81 rfl hJ59.1 zs_0 (Nat.le_of_ble_eq_true rfl) zo_0_15 ?_
    intro x63 f64 h65 h66
    replace hb : zHd _ := hb x63.toInt (ziE f64)
    refine w_ic dX8_dorm_84 zi_1 ?_
    refine w_puI dX8_dorm_85 rfl rfl ?_
    intro x67
    replace hb : zHd _ := hb x67.toInt 
    refine w_pfi dX8_dorm_86 rfl hJ59 zs_0 (Nat.le_of_ble_eq_true rfl) zo_0_15 (zbot _) (ztop _) (zIR_s (zIR_s (zIR_s (zIR_s (zIR_s (zIR_s (zIR_s (zIR_s (zIR_s (zIR_s (zIR_s (zIR_s (zIR_s (zIR_s (zIR_s (zIR_s (zIR_s (zIR_s (zIR_s (zIR_s (zIR_s (zIR_s (zIR_s (zIR_s (zIR_k (by omega) (by omega)))))))))))))))))))))))))) rfl rfl rfl ?_
    intro M68 hJ69 f70 hn71
    replace hb : zHd _ := hb (zi M68) (zi_zup hn71 f70 rfl rfl)
    refine w_lo dX8_dorm_89 rfl rfl rfl rfl ?_
    have f73 := (hn71 (0) 3 (Or.inr (by decide))).trans ((hn61 (0) 3 (Or.inr (by decide))).trans ((hJ52.2 (0) 3 (zNI_k (by decide) (by decide) zNI_nil)).trans ((hJ45.2 (0) 3 (zNI_k (by decide) (by decide) (zNI_k (by decide) (by decide) (zNI (by omega) (zNI_k (by decide) (by decide) zNI_nil))))).trans (f43))))
    refine w_gf dX8_dorm_90 rfl hJ69.1.1 zs_0 f73 ?_
    refine w_gfi dX8_dorm_93 rfl hJ69.1 (zs_1_0 h31) (Nat.le_of_ble_eq_true rfl) (zo_1_0_0 h31) ?_
    intro x74 f75 h76 h77
    replace hb : zHd _ := hb x74.toInt (ziE f75) h76 h77
    refine w_eni dX8_dorm_96 rfl rfl ?_
    exact ⟨_, _, rfl, (by omega), (by omega), hJ69, hb⟩
  · skip
    replace hb : zHd _ := hb.2 h24
    refine w_ine_f dX8_dorm_22 (t := 32) rfl (by omega) ?_
    refine w_lo dX8_dorm_25 rfl rfl rfl rfl ?_
    refine w_ic dX8_dorm_26 zi_1 ?_
    refine w_iv dX8_dorm_27 rfl rfl (As := [.int 1]) rfl rfl hJ23.1.1 zs_0 (Nat.le_of_ble_eq_true rfl) ?_
    refine ZV.imp (k_2050 1 (by have := zt_1; omega) (by have := zt_1; omega) hN hJ23.1) ?_
    rintro _ ⟨M78, rfl, hJ79, hq80⟩
    replace hb : zHd _ := hb  (zi M78) (zi_fr hJ79.2)
    have hJ82 := zJ_trans hJ23 hJ79 (zSub_cons (fun _ _ h h' hk => zIR_s (zIR_s (zIR_s (zIR_s (zIR_s (zIR_s (zIR_s (zIR_s (zIR_s (zIR_s (zIR_s (zIR_s (zIR_s (zIR_s (zIR_s (zIR_s (zIR_s (zIR_s (zIR_s (zIR_s (zIR_s (zIR_a (by omega) (by omega))))))))))))))))))))))) zSub_nil)
    show ZW _ _ _ _ _ _ _ (30, [some (.ref 0), some (.int x1), none], [], M78)
    refine w_ic dX8_dorm_30 zi_m1 ?_
    refine w_en dX8_dorm_31 rfl ?_
    exact ⟨_, _, rfl, (by have := zt_m1; omega), (by have := zt_m1; omega), hJ82, hb⟩
set_option maxRecDepth 100000 in
theorem u_2074 {X : List Int32} {d N : Nat} {M0 : zM}  (hN : N ≤ 600) (hB0 : zB N M0) {Q : zF → Prop} (hb : b_2074 (zi M0) Q) : ZV X (d + 4) 2074 [.ref 0] M0 (zRV N [(77, 78, 0), (79, 346, 0), (77, 78, 1), (79, 346, 1), (80, 359, 1000), (79, 346, 14), (0, 1, 15)] M0 (fun M' => Q (zi M'))) := by
  have hJ0 : zJ N [(77, 78, 0), (79, 346, 0), (77, 78, 1), (79, 346, 1), (80, 359, 1000), (79, 346, 14), (0, 1, 15)] M0 M0 := zJ_refl hB0
  refine ZV.of (ini := false) rfl (Nat.le_of_ble_eq_true rfl) (by decide +kernel) ?_
  unfold b_2074 at hb
  replace hb : zHd _ := hb
  show ZW _ _ _ _ _ _ _ (0, [some (.ref 0)], [], M0)
  refine w_lo dX8_startAct_0 rfl rfl rfl rfl ?_
  refine w_gf dX8_startAct_1 rfl hJ0.1.1 zs_0 (zr_0_6 hJ0.1) ?_
  refine w_lo dX8_startAct_4 rfl rfl rfl rfl ?_
  refine w_gf dX8_startAct_5 rfl hJ0.1.1 zs_0 (zr_0_4 hJ0.1) ?_
  refine w_iv dX8_startAct_8 rfl rfl (As := [.ref 49]) rfl rfl hJ0.1.1 zs_77 (Nat.le_of_ble_eq_true rfl) ?_
  obtain ⟨P3, hp4, hb⟩ := hb
  replace hb : zHd _ := hb
  refine ZV.imp (u_2 49 hb_6_49 hN hJ0.1 hp4) ?_
  rintro _ ⟨M1, rfl, hJ2, hq5⟩
  replace hb : zHd _ := hb  (zi M1) (zi_fr hJ2.2) hq5
  have hJ7 := zJ_trans hJ0 hJ2 (zSub_cons (fun _ _ h h' hk => zIR_e (by omega) (by omega) hk) (zSub_cons (fun _ _ h h' hk => zIR_s (zIR_e (by omega) (by omega) hk)) (zSub_cons (fun _ _ h h' hk => zIR_s (zIR_s (zIR_e (by omega) (by omega) hk))) (zSub_cons (fun _ _ h h' hk => zIR_s (zIR_s (zIR_s (zIR_e (by omega) (by omega) hk)))) (zSub_cons (fun _ _ h h' hk => zIR_s (zIR_s (zIR_s (zIR_s (zIR_a (by omega) (by omega)))))) (zSub_cons (fun _ _ h h' hk => zIR_s (zIR_s (zIR_s (zIR_s (zIR_s (zIR_e (by omega) (by omega) hk)))))) zSub_nil))))))
  show ZW _ _ _ _ _ _ _ (11, [some (.ref 0)], [], M1)
  refine w_lo dX8_startAct_11 rfl rfl rfl rfl ?_
  refine w_pu dX8_startAct_12 rfl rfl ?_
  refine w_gfi dX8_startAct_13 rfl hJ7.1 zs_0 (Nat.le_of_ble_eq_true rfl) zo_0_15 ?_
  intro x8 f9 h10 h11
  replace hb : zHd _ := hb x8.toInt (ziE f9)
  refine w_ic dX8_startAct_16 zi_1 ?_
  refine w_puI dX8_startAct_17 rfl rfl ?_
  intro x12
  replace hb : zHd _ := hb x12.toInt 
  refine w_pfi dX8_startAct_18 rfl hJ7 zs_0 (Nat.le_of_ble_eq_true rfl) zo_0_15 (zbot _) (ztop _) (zIR_s (zIR_s (zIR_s (zIR_s (zIR_s (zIR_s (zIR_k (by omega) (by omega)))))))) rfl rfl rfl ?_
  intro M13 hJ14 f15 hn16
  replace hb : zHd _ := hb (zi M13) (zi_zup hn16 f15 rfl rfl)
  refine w_en dX8_startAct_21 rfl ?_
  exact ⟨_, rfl, hJ14, hb⟩
set_option maxRecDepth 100000 in
theorem u_2073 {X : List Int32} {d N : Nat} {M0 : zM} (a0 : Int32) (hN : N ≤ 600) (hB0 : zB N M0) {Q : Int → zF → Prop} (hb : b_2073 N (zi M0) a0.toInt Q) : ZV X (d + 8) 2073 [.ref 0, .int a0] M0 (zRI N [(77, 78, 0), (79, 346, 0), (359, 360, 0), (49, 50, 1), (77, 78, 1), (79, 346, 1), (360, 361, 1), (26, 28, 1000), (47, 49, 1000), (51, 60, 1000), (62, 63, 1000), (80, 359, 1000), (361, 362, 1000), (385, 386, 1000), (49, 50, 14), (79, 346, 14), (0, 1, 15)] M0 (-1800000) (1800000) (fun v M' => Q v.toInt (zi M'))) := by
  have hJ0 : zJ N [(77, 78, 0), (79, 346, 0), (359, 360, 0), (49, 50, 1), (77, 78, 1), (79, 346, 1), (360, 361, 1), (26, 28, 1000), (47, 49, 1000), (51, 60, 1000), (62, 63, 1000), (80, 359, 1000), (361, 362, 1000), (385, 386, 1000), (49, 50, 14), (79, 346, 14), (0, 1, 15)] M0 M0 := zJ_refl hB0
  refine ZV.of (ini := false) rfl (Nat.le_of_ble_eq_true rfl) (by decide +kernel) ?_
  obtain ⟨I55, hbE, hb55⟩ := hb
  replace hbE : zHd _ := hbE
  replace hb55 : zHd _ := hb55
  have main : ∀ n : Nat,
      (∀ (M : zM) (v55_1 : Int32) (v55_2 : Int32) (v55_3 : Int32), zJ N [(77, 78, 0), (79, 346, 0), (359, 360, 0), (49, 50, 1), (77, 78, 1), (79, 346, 1), (360, 361, 1), (26, 28, 1000), (47, 49, 1000), (51, 60, 1000), (62, 63, 1000), (80, 359, 1000), (361, 362, 1000), (385, 386, 1000), (49, 50, 14), (79, 346, 14), (0, 1, 15)] M0 M → ((1 : Int) ≤ v55_1.toInt) → (v55_1.toInt ≤ 99) → ((0 : Int) ≤ v55_2.toInt) → (v55_2.toInt ≤ 1800000) → ((0 : Int) ≤ v55_3.toInt) → (v55_3.toInt ≤ 99) → I55 n (zi M) v55_1.toInt v55_2.toInt v55_3.toInt → ZW X (d + 7) 8 false (some .int) cX8_go (zRI N [(77, 78, 0), (79, 346, 0), (359, 360, 0), (49, 50, 1), (77, 78, 1), (79, 346, 1), (360, 361, 1), (26, 28, 1000), (47, 49, 1000), (51, 60, 1000), (62, 63, 1000), (80, 359, 1000), (361, 362, 1000), (385, 386, 1000), (49, 50, 14), (79, 346, 14), (0, 1, 15)] M0 (-1800000) (1800000) (fun v M' => Q v.toInt (zi M'))) (55, [some (.ref 0), some (.int v55_1), some (.int v55_2), some (.int v55_3)], [], M)) := by
    intro n
    induction n using Nat.strongRecOn with
    | _ n ih =>
      · intro M v55_1 v55_2 v55_3 hJ v55_10 v55_11 v55_20 v55_21 v55_30 v55_31 hI
        have hb : zHd _ := hb55 n (zi M) v55_1.toInt v55_2.toInt v55_3.toInt (zi_fr hJ.2) v55_10 v55_11 v55_20 v55_21 v55_30 v55_31 hI
        refine w_lo dX8_go_55 rfl rfl rfl rfl ?_
        refine w_lo dX8_go_56 rfl rfl rfl rfl ?_
        rcases zcut v55_3.toInt v55_1.toInt with h1 | h1
        · skip
          replace hb : zHd _ := hb.1 h1
          refine w_cge_f dX8_go_57 (t := 94) rfl (by omega) ?_
          refine w_lo dX8_go_60 rfl rfl rfl rfl ?_
          refine w_gf dX8_go_61 rfl hJ.1.1 zs_0 (zr_0_4 hJ.1) ?_
          refine w_gfi dX8_go_64 rfl hJ.1 zs_49 (Nat.le_of_ble_eq_true rfl) zo_49_1 ?_
          intro x2 f3 h4 h5
          replace hb : zHd _ := hb x2.toInt (ziE f3)
          refine w_si dX8_go_67 (c := 999) (by decide) ?_
          rcases zcut x2.toInt (999 : Int) with h6 | h6
          · skip
            replace hb : zHd _ := hb.1 h6
            refine w_cge_f dX8_go_70 (t := 94) rfl (by have := zt_999; omega) ?_
            refine w_lo dX8_go_73 rfl rfl rfl rfl ?_
            refine w_gf dX8_go_74 rfl hJ.1.1 zs_0 (zr_0_7 hJ.1) ?_
            refine w_lo dX8_go_77 rfl rfl rfl rfl ?_
            obtain ⟨b7, f8, h9⟩ := zd_0_3 hJ.1
            have h10 := zDm_b h9
            refine w_gf dX8_go_78 rfl hJ.1.1 zs_0 f8 ?_
            replace hb : zHd _ := hb b7 (ziR f8) (zDm_or h9)
            refine w_lo dX8_go_81 rfl rfl rfl rfl ?_
            refine w_gf dX8_go_82 rfl hJ.1.1 zs_0 (zr_0_4 hJ.1) ?_
            obtain ⟨x13, f14, h15, h16⟩ := zB_cnt hJ.1 zs_49 (Nat.le_of_ble_eq_true rfl) zo_49_14
            replace hb : zHd _ := hb x13.toInt (ziE f14) h15
            have h17 := hb.1
            replace hb : zHd _ := hb.2
            refine w_iv dX8_go_85 rfl rfl (As := [.ref b7, .ref 49]) rfl rfl hJ.1.1 zs_359 (Nat.le_of_ble_eq_true rfl) ?_
            refine ZV.imp (k_769 b7 h9 49 hb_6_49 x13 f14 (by omega) (by omega) hN hJ.1) ?_
            rintro _ ⟨M11, rfl, hJ12, hq18⟩
            replace hb : zHd _ := hb  (zi M11) (zi_fr hJ12.2)
            have hJ20 := zJ_trans hJ hJ12 (zSub_cons (fun _ _ h h' hk => ((zDm_or h9).elim (fun e => zIR_s (zIR_s (zIR_s (zIR_s (zIR_s (zIR_s (zIR_s (zIR_a (by omega) (by omega))))))))) (fun e => zIR_s (zIR_s (zIR_s (zIR_s (zIR_s (zIR_s (zIR_s (zIR_s (zIR_a (by omega) (by omega)))))))))))) (zSub_cons (fun _ _ h h' hk => zIR_s (zIR_s (zIR_s (zIR_e (by omega) (by omega) hk)))) (zSub_cons (fun _ _ h h' hk => zIR_s (zIR_s (zIR_s (zIR_s (zIR_s (zIR_s (zIR_s (zIR_s (zIR_s (zIR_a (by omega) (by omega))))))))))) (zSub_cons (fun _ _ h h' hk => zIR_s (zIR_s (zIR_s (zIR_s (zIR_s (zIR_s (zIR_s (zIR_s (zIR_s (zIR_s (zIR_a (by omega) (by omega)))))))))))) (zSub_cons (fun _ _ h h' hk => zIR_s (zIR_s (zIR_s (zIR_s (zIR_s (zIR_s (zIR_s (zIR_s (zIR_s (zIR_s (zIR_s (zIR_s (zIR_s (zIR_s (zIR_e (by omega) (by omega) hk))))))))))))))) (zSub_cons (fun _ _ h h' hk => zIR_s (zIR_s (zIR_e (by omega) (by omega) hk))) (zSub_cons (fun _ _ h h' hk => zIR_s (zIR_s (zIR_s (zIR_s (zIR_s (zIR_s (zIR_e (by omega) (by omega) hk))))))) (zSub_cons (fun _ _ h h' hk => zIR_s (zIR_s (zIR_s (zIR_s (zIR_s (zIR_s (zIR_s (zIR_s (zIR_s (zIR_s (zIR_s (zIR_s (zIR_a (by omega) (by omega)))))))))))))) zSub_nil))))))))
            obtain ⟨x21, f22, h23, h24, -⟩ := hq18
            replace hb : zHd _ := hb x21.toInt (ziE f22) h23 h24
            show ZW _ _ _ _ _ _ _ (88, [some (.ref 0), some (.int v55_1), some (.int v55_2), some (.int v55_3)], [], M11)
            refine w_inc (kk := 3) dX8_go_88 rfl (m := 1) (by decide) (by omega) ?_
            intro x25 h26
            refine ⟨_, rfl, ?_⟩
            replace hb : zHd _ := hb x25.toInt h26
            show ZW _ _ _ _ _ _ _ (91, [some (.ref 0), some (.int v55_1), some (.int v55_2), some (.int x25)], [], M11)
            refine w_gt dX8_go_91 (t := 55) rfl ?_
            obtain ⟨m, hm, hI⟩ := hb
            exact (ih m hm) M11 v55_1 v55_2 x25 hJ20 (by omega) (by omega) (by omega) (by omega) (by omega) (by omega) hI
          · skip
            replace hb : zHd _ := hb.2 h6
            refine w_cge_t dX8_go_70 (t := 94) rfl (by have := zt_999; omega) ?_
            refine w_lo dX8_go_94 rfl rfl rfl rfl ?_
            refine w_gf dX8_go_95 rfl hJ.1.1 zs_0 (zr_0_4 hJ.1) ?_
            refine w_gfc dX8_go_98 rfl hJ.1 zs_49 (Nat.le_of_ble_eq_true rfl) zo_49_14 ?_
            intro x27 f28 h29 h30
            replace hb : zHd _ := hb x27.toInt (ziE f28) h29
            refine w_lo dX8_go_101 rfl rfl rfl rfl ?_
            refine w_sub dX8_go_102 (by omega) ?_
            intro x31 h32
            replace hb : zHd _ := hb x31.toInt (by omega)
            refine w_eni dX8_go_103 rfl rfl ?_
            exact ⟨_, _, rfl, (by omega), (by omega), hJ, hb⟩
        · skip
          replace hb : zHd _ := hb.2 h1
          refine w_cge_t dX8_go_57 (t := 94) rfl (by omega) ?_
          refine w_lo dX8_go_94 rfl rfl rfl rfl ?_
          refine w_gf dX8_go_95 rfl hJ.1.1 zs_0 (zr_0_4 hJ.1) ?_
          refine w_gfc dX8_go_98 rfl hJ.1 zs_49 (Nat.le_of_ble_eq_true rfl) zo_49_14 ?_
          intro x33 f34 h35 h36
          replace hb : zHd _ := hb x33.toInt (ziE f34) h35
          refine w_lo dX8_go_101 rfl rfl rfl rfl ?_
          refine w_sub dX8_go_102 (by omega) ?_
          intro x37 h38
          replace hb : zHd _ := hb x37.toInt (by omega)
          refine w_eni dX8_go_103 rfl rfl ?_
          exact ⟨_, _, rfl, (by omega), (by omega), hJ, hb⟩
  have hb : zHd _ := hbE
  show ZW _ _ _ _ _ _ _ (0, [some (.ref 0), some (.int a0), none, none], [], M0)
  refine w_lo dX8_go_0 rfl rfl rfl rfl ?_
  refine w_ic dX8_go_1 zi_1 ?_
  rcases zcut a0.toInt (1 : Int) with h39 | h39
  · skip
    replace hb : zHd _ := hb.1 h39
    refine w_clt_t dX8_go_2 (t := 34) rfl (by have := zt_1; omega) ?_
    refine w_lo dX8_go_34 rfl rfl rfl rfl ?_
    refine w_ic dX8_go_35 zi_2 ?_
    refine w_iv dX8_go_36 rfl rfl (As := [.int 2]) rfl rfl hJ0.1.1 zs_0 (Nat.le_of_ble_eq_true rfl) ?_
    refine ZV.imp (k_2050 2 (by have := zt_2; omega) (by have := zt_2; omega) hN hJ0.1) ?_
    rintro _ ⟨M40, rfl, hJ41, hq42⟩
    replace hb : zHd _ := hb  (zi M40) (zi_fr hJ41.2)
    have hJ44 := zJ_trans hJ0 hJ41 (zSub_cons (fun _ _ h h' hk => zIR_s (zIR_s (zIR_s (zIR_s (zIR_s (zIR_s (zIR_s (zIR_s (zIR_s (zIR_s (zIR_s (zIR_s (zIR_s (zIR_a (by omega) (by omega))))))))))))))) zSub_nil)
    show ZW _ _ _ _ _ _ _ (39, [some (.ref 0), some (.int a0), none, none], [], M40)
    refine w_ic dX8_go_39 zi_m1 ?_
    refine w_en dX8_go_40 rfl ?_
    exact ⟨_, _, rfl, (by have := zt_m1; omega), (by have := zt_m1; omega), hJ44, hb⟩
  · skip
    replace hb : zHd _ := hb.2 h39
    refine w_clt_f dX8_go_2 (t := 34) rfl (by have := zt_1; omega) ?_
    refine w_lo dX8_go_5 rfl rfl rfl rfl ?_
    refine w_bi dX8_go_6 (c := 99) (by decide) ?_
    rcases zcut (99 : Int) a0.toInt with h45 | h45
    · skip
      replace hb : zHd _ := hb.1 h45
      refine w_cgt_t dX8_go_8 (t := 34) rfl (by have := zt_99; omega) ?_
      refine w_lo dX8_go_34 rfl rfl rfl rfl ?_
      refine w_ic dX8_go_35 zi_2 ?_
      refine w_iv dX8_go_36 rfl rfl (As := [.int 2]) rfl rfl hJ0.1.1 zs_0 (Nat.le_of_ble_eq_true rfl) ?_
      refine ZV.imp (k_2050 2 (by have := zt_2; omega) (by have := zt_2; omega) hN hJ0.1) ?_
      rintro _ ⟨M46, rfl, hJ47, hq48⟩
      replace hb : zHd _ := hb  (zi M46) (zi_fr hJ47.2)
      have hJ50 := zJ_trans hJ0 hJ47 (zSub_cons (fun _ _ h h' hk => zIR_s (zIR_s (zIR_s (zIR_s (zIR_s (zIR_s (zIR_s (zIR_s (zIR_s (zIR_s (zIR_s (zIR_s (zIR_s (zIR_a (by omega) (by omega))))))))))))))) zSub_nil)
      show ZW _ _ _ _ _ _ _ (39, [some (.ref 0), some (.int a0), none, none], [], M46)
      refine w_ic dX8_go_39 zi_m1 ?_
      refine w_en dX8_go_40 rfl ?_
      exact ⟨_, _, rfl, (by have := zt_m1; omega), (by have := zt_m1; omega), hJ50, hb⟩
    · skip
      replace hb : zHd _ := hb.2 h45
      refine w_cgt_f dX8_go_8 (t := 34) rfl (by have := zt_99; omega) ?_
      refine w_lo dX8_go_11 rfl rfl rfl rfl ?_
      refine w_gf dX8_go_12 rfl hJ0.1.1 zs_0 (zr_0_4 hJ0.1) ?_
      refine w_gfi dX8_go_15 rfl hJ0.1 zs_49 (Nat.le_of_ble_eq_true rfl) zo_49_0 ?_
      intro x51 f52 h53 h54
      replace hb : zHd _ := hb x51.toInt (ziE f52) h53 h54
      rcases Int.decEq x51.toInt (0 : Int) with h55 | h55
      · skip
        replace hb : zHd _ := hb.1 h55
        refine w_ieq_f dX8_go_18 (t := 34) rfl (by omega) ?_
        refine w_lo dX8_go_21 rfl rfl rfl rfl ?_
        refine w_gf dX8_go_22 rfl hJ0.1.1 zs_0 (zr_0_4 hJ0.1) ?_
        refine w_gfi dX8_go_25 rfl hJ0.1 zs_49 (Nat.le_of_ble_eq_true rfl) zo_49_1 ?_
        intro x56 f57 h58 h59
        replace hb : zHd _ := hb x56.toInt (ziE f57)
        refine w_si dX8_go_28 (c := 999) (by decide) ?_
        rcases zcut x56.toInt (999 : Int) with h60 | h60
        · skip
          replace hb : zHd _ := hb.1 h60
          refine w_clt_t dX8_go_31 (t := 41) rfl (by have := zt_999; omega) ?_
          refine w_lo dX8_go_41 rfl rfl rfl rfl ?_
          refine w_iv dX8_go_42 rfl rfl (As := []) rfl rfl hJ0.1.1 zs_0 (Nat.le_of_ble_eq_true rfl) ?_
          obtain ⟨P63, hp64, hb⟩ := hb
          replace hb : zHd _ := hb
          refine ZV.imp (u_2074 hN hJ0.1 hp64) ?_
          rintro _ ⟨M61, rfl, hJ62, hq65⟩
          replace hb : zHd _ := hb  (zi M61) (zi_fr hJ62.2) hq65
          have hJ67 := zJ_trans hJ0 hJ62 (zSub_cons (fun _ _ h h' hk => zIR_e (by omega) (by omega) hk) (zSub_cons (fun _ _ h h' hk => zIR_s (zIR_e (by omega) (by omega) hk)) (zSub_cons (fun _ _ h h' hk => zIR_s (zIR_s (zIR_s (zIR_s (zIR_e (by omega) (by omega) hk))))) (zSub_cons (fun _ _ h h' hk => zIR_s (zIR_s (zIR_s (zIR_s (zIR_s (zIR_e (by omega) (by omega) hk)))))) (zSub_cons (fun _ _ h h' hk => zIR_s (zIR_s (zIR_s (zIR_s (zIR_s (zIR_s (zIR_s (zIR_s (zIR_s (zIR_s (zIR_s (zIR_a (by omega) (by omega))))))))))))) (zSub_cons (fun _ _ h h' hk => zIR_s (zIR_s (zIR_s (zIR_s (zIR_s (zIR_s (zIR_s (zIR_s (zIR_s (zIR_s (zIR_s (zIR_s (zIR_s (zIR_s (zIR_s (zIR_e (by omega) (by omega) hk)))))))))))))))) (zSub_cons (fun _ _ h h' hk => zIR_s (zIR_s (zIR_s (zIR_s (zIR_s (zIR_s (zIR_s (zIR_s (zIR_s (zIR_s (zIR_s (zIR_s (zIR_s (zIR_s (zIR_s (zIR_s (zIR_e (by omega) (by omega) hk))))))))))))))))) zSub_nil)))))))
          show ZW _ _ _ _ _ _ _ (45, [some (.ref 0), some (.int a0), none, none], [], M61)
          refine w_lo dX8_go_45 rfl rfl rfl rfl ?_
          refine w_gf dX8_go_46 rfl hJ67.1.1 zs_0 (zr_0_4 hJ67.1) ?_
          refine w_gfc dX8_go_49 rfl hJ67.1 zs_49 (Nat.le_of_ble_eq_true rfl) zo_49_14 ?_
          intro x68 f69 h70 h71
          replace hb : zHd _ := hb x68.toInt (ziE f69) h70
          refine w_lo (ml' := [some (.ref 0), some (.int a0), some (.int x68), none]) dX8_go_52 rfl rfl rfl rfl ?_
          refine w_ic dX8_go_53 zi_0 ?_
          refine w_lo (ml' := [some (.ref 0), some (.int a0), some (.int x68), some (.int 0)]) dX8_go_54 rfl rfl rfl rfl ?_
          obtain ⟨m, hI⟩ := hb
          exact (main m) M61 a0 x68 0 hJ67 (by omega) (by omega) (by omega) (by omega) (by have := zt_0; omega) (by have := zt_0; omega) hI
        · skip
          replace hb : zHd _ := hb.2 h60
          refine w_clt_f dX8_go_31 (t := 41) rfl (by have := zt_999; omega) ?_
          refine w_lo dX8_go_34 rfl rfl rfl rfl ?_
          refine w_ic dX8_go_35 zi_2 ?_
          refine w_iv dX8_go_36 rfl rfl (As := [.int 2]) rfl rfl hJ0.1.1 zs_0 (Nat.le_of_ble_eq_true rfl) ?_
          refine ZV.imp (k_2050 2 (by have := zt_2; omega) (by have := zt_2; omega) hN hJ0.1) ?_
          rintro _ ⟨M72, rfl, hJ73, hq74⟩
          replace hb : zHd _ := hb  (zi M72) (zi_fr hJ73.2)
          have hJ76 := zJ_trans hJ0 hJ73 (zSub_cons (fun _ _ h h' hk => zIR_s (zIR_s (zIR_s (zIR_s (zIR_s (zIR_s (zIR_s (zIR_s (zIR_s (zIR_s (zIR_s (zIR_s (zIR_s (zIR_a (by omega) (by omega))))))))))))))) zSub_nil)
          show ZW _ _ _ _ _ _ _ (39, [some (.ref 0), some (.int a0), none, none], [], M72)
          refine w_ic dX8_go_39 zi_m1 ?_
          refine w_en dX8_go_40 rfl ?_
          exact ⟨_, _, rfl, (by have := zt_m1; omega), (by have := zt_m1; omega), hJ76, hb⟩
      · skip
        replace hb : zHd _ := hb.2 h55
        refine w_ieq_t dX8_go_18 (t := 34) rfl (by omega) ?_
        refine w_lo dX8_go_34 rfl rfl rfl rfl ?_
        refine w_ic dX8_go_35 zi_2 ?_
        refine w_iv dX8_go_36 rfl rfl (As := [.int 2]) rfl rfl hJ0.1.1 zs_0 (Nat.le_of_ble_eq_true rfl) ?_
        refine ZV.imp (k_2050 2 (by have := zt_2; omega) (by have := zt_2; omega) hN hJ0.1) ?_
        rintro _ ⟨M77, rfl, hJ78, hq79⟩
        replace hb : zHd _ := hb  (zi M77) (zi_fr hJ78.2)
        have hJ81 := zJ_trans hJ0 hJ78 (zSub_cons (fun _ _ h h' hk => zIR_s (zIR_s (zIR_s (zIR_s (zIR_s (zIR_s (zIR_s (zIR_s (zIR_s (zIR_s (zIR_s (zIR_s (zIR_s (zIR_a (by omega) (by omega))))))))))))))) zSub_nil)
        show ZW _ _ _ _ _ _ _ (39, [some (.ref 0), some (.int a0), none, none], [], M77)
        refine w_ic dX8_go_39 zi_m1 ?_
        refine w_en dX8_go_40 rfl ?_
        exact ⟨_, _, rfl, (by have := zt_m1; omega), (by have := zt_m1; omega), hJ81, hb⟩
set_option maxRecDepth 100000 in
theorem u_2075 {X : List Int32} {d N : Nat} {M0 : zM} (a0 : Int32) (a1 : Int32) (hN : N ≤ 600) (hB0 : zB N M0) {Q : Int → zF → Prop} (hb : b_2075 N (zi M0) a0.toInt a1.toInt Q) : ZV X (d + 7) 2075 [.ref 0, .int a0, .int a1] M0 (zRI N [(77, 78, 0), (79, 346, 0), (77, 78, 1), (79, 346, 1), (360, 361, 1), (26, 28, 1000), (47, 49, 1000), (51, 60, 1000), (62, 63, 1000), (80, 359, 1000), (361, 362, 1000), (385, 386, 1000), (49, 50, 14), (79, 346, 14), (0, 1, 15)] M0 (-1) (63) (fun v M' => Q v.toInt (zi M'))) := by
  have hJ0 : zJ N [(77, 78, 0), (79, 346, 0), (77, 78, 1), (79, 346, 1), (360, 361, 1), (26, 28, 1000), (47, 49, 1000), (51, 60, 1000), (62, 63, 1000), (80, 359, 1000), (361, 362, 1000), (385, 386, 1000), (49, 50, 14), (79, 346, 14), (0, 1, 15)] M0 M0 := zJ_refl hB0
  refine ZV.of (ini := false) rfl (Nat.le_of_ble_eq_true rfl) (by decide +kernel) ?_
  unfold b_2075 at hb
  replace hb : zHd _ := hb
  show ZW _ _ _ _ _ _ _ (0, [some (.ref 0), some (.int a0), some (.int a1)], [], M0)
  refine w_lo dX8_dreams_0 rfl rfl rfl rfl ?_
  refine w_lo dX8_dreams_1 rfl rfl rfl rfl ?_
  refine w_iv dX8_dreams_2 rfl rfl (As := [.int a0]) rfl rfl hJ0.1.1 zs_0 (Nat.le_of_ble_eq_true rfl) ?_
  refine ZV.of (ini := false) rfl (Nat.le_of_ble_eq_true rfl) (by decide +kernel) ?_
  show ZW _ _ _ _ _ _ _ (0, [some (.ref 0), some (.int a0)], [], M0)
  refine w_lo dX8_isBoy_0 rfl rfl rfl rfl ?_
  rcases zcut a0.toInt (0 : Int) with h1 | h1
  · skip
    replace hb : zHd _ := hb.1 h1
    refine w_ilt_t dX8_isBoy_1 (t := 19) rfl (by omega) ?_
    refine w_ic dX8_isBoy_19 zi_0 ?_
    refine w_en dX8_isBoy_20 rfl ?_
    show ZW _ _ _ _ _ _ _ (5, [some (.ref 0), some (.int a0), some (.int a1)], [.int 0], M0)
    refine w_ieq_t dX8_dreams_5 (t := 35) rfl (by have := zt_0; omega) ?_
    refine w_lo dX8_dreams_35 rfl rfl rfl rfl ?_
    refine w_ic dX8_dreams_36 zi_2 ?_
    refine w_iv dX8_dreams_37 rfl rfl (As := [.int 2]) rfl rfl hJ0.1.1 zs_0 (Nat.le_of_ble_eq_true rfl) ?_
    refine ZV.imp (k_2050 2 (by have := zt_2; omega) (by have := zt_2; omega) hN hJ0.1) ?_
    rintro _ ⟨M2, rfl, hJ3, hq4⟩
    replace hb : zHd _ := hb  (zi M2) (zi_fr hJ3.2)
    have hJ6 := zJ_trans hJ0 hJ3 (zSub_cons (fun _ _ h h' hk => zIR_s (zIR_s (zIR_s (zIR_s (zIR_s (zIR_s (zIR_s (zIR_s (zIR_s (zIR_s (zIR_s (zIR_a (by omega) (by omega))))))))))))) zSub_nil)
    show ZW _ _ _ _ _ _ _ (40, [some (.ref 0), some (.int a0), some (.int a1)], [], M2)
    refine w_ic dX8_dreams_40 zi_m1 ?_
    refine w_en dX8_dreams_41 rfl ?_
    exact ⟨_, _, rfl, (by have := zt_m1; omega), (by have := zt_m1; omega), hJ6, hb⟩
  · skip
    replace hb : zHd _ := hb.2 h1
    refine w_ilt_f dX8_isBoy_1 (t := 19) rfl (by omega) ?_
    refine w_lo dX8_isBoy_4 rfl rfl rfl rfl ?_
    refine w_lo dX8_isBoy_5 rfl rfl rfl rfl ?_
    obtain ⟨b7, f8, h9⟩ := zd_0_3 hJ0.1
    have h10 := zDm_b h9
    refine w_gf dX8_isBoy_6 rfl hJ0.1.1 zs_0 f8 ?_
    replace hb : zHd _ := hb b7 (ziR f8) (zDm_or h9)
    refine w_gfi dX8_isBoy_9 rfl hJ0.1 (zs_1_0 h9) (Nat.le_of_ble_eq_true rfl) (zo_1_0_1 h9) ?_
    intro x11 f12 h13 h14
    replace hb : zHd _ := hb x11.toInt (ziE f12) h13 h14
    rcases zcut a0.toInt x11.toInt with h15 | h15
    · skip
      replace hb : zHd _ := hb.1 h15
      refine w_cge_f dX8_isBoy_12 (t := 19) rfl (by omega) ?_
      refine w_ic dX8_isBoy_15 zi_1 ?_
      refine w_gt dX8_isBoy_16 (t := 20) rfl ?_
      refine w_en dX8_isBoy_20 rfl ?_
      show ZW _ _ _ _ _ _ _ (5, [some (.ref 0), some (.int a0), some (.int a1)], [.int 1], M0)
      refine w_ieq_f dX8_dreams_5 (t := 35) rfl (by have := zt_1; omega) ?_
      refine w_lo dX8_dreams_8 rfl rfl rfl rfl ?_
      refine w_lo dX8_dreams_9 rfl rfl rfl rfl ?_
      refine w_iv dX8_dreams_10 rfl rfl (As := [.int a1]) rfl rfl hJ0.1.1 zs_0 (Nat.le_of_ble_eq_true rfl) ?_
      refine ZV.of (ini := false) rfl (Nat.le_of_ble_eq_true rfl) (by decide +kernel) ?_
      show ZW _ _ _ _ _ _ _ (0, [some (.ref 0), some (.int a1)], [], M0)
      refine w_lo dX8_isDream_0 rfl rfl rfl rfl ?_
      rcases zcut a1.toInt (0 : Int) with h16 | h16
      · skip
        replace hb : zHd _ := hb.1 h16
        refine w_ilt_t dX8_isDream_1 (t := 19) rfl (by omega) ?_
        refine w_ic dX8_isDream_19 zi_0 ?_
        refine w_en dX8_isDream_20 rfl ?_
        show ZW _ _ _ _ _ _ _ (13, [some (.ref 0), some (.int a0), some (.int a1)], [.int 0], M0)
        refine w_ieq_t dX8_dreams_13 (t := 35) rfl (by have := zt_0; omega) ?_
        refine w_lo dX8_dreams_35 rfl rfl rfl rfl ?_
        refine w_ic dX8_dreams_36 zi_2 ?_
        refine w_iv dX8_dreams_37 rfl rfl (As := [.int 2]) rfl rfl hJ0.1.1 zs_0 (Nat.le_of_ble_eq_true rfl) ?_
        refine ZV.imp (k_2050 2 (by have := zt_2; omega) (by have := zt_2; omega) hN hJ0.1) ?_
        rintro _ ⟨M17, rfl, hJ18, hq19⟩
        replace hb : zHd _ := hb  (zi M17) (zi_fr hJ18.2)
        have hJ21 := zJ_trans hJ0 hJ18 (zSub_cons (fun _ _ h h' hk => zIR_s (zIR_s (zIR_s (zIR_s (zIR_s (zIR_s (zIR_s (zIR_s (zIR_s (zIR_s (zIR_s (zIR_a (by omega) (by omega))))))))))))) zSub_nil)
        show ZW _ _ _ _ _ _ _ (40, [some (.ref 0), some (.int a0), some (.int a1)], [], M17)
        refine w_ic dX8_dreams_40 zi_m1 ?_
        refine w_en dX8_dreams_41 rfl ?_
        exact ⟨_, _, rfl, (by have := zt_m1; omega), (by have := zt_m1; omega), hJ21, hb⟩
      · skip
        replace hb : zHd _ := hb.2 h16
        refine w_ilt_f dX8_isDream_1 (t := 19) rfl (by omega) ?_
        refine w_lo dX8_isDream_4 rfl rfl rfl rfl ?_
        refine w_lo dX8_isDream_5 rfl rfl rfl rfl ?_
        refine w_gf dX8_isDream_6 rfl hJ0.1.1 zs_0 f8 ?_
        refine w_gfi dX8_isDream_9 rfl hJ0.1 (zs_1_0 h9) (Nat.le_of_ble_eq_true rfl) (zo_1_0_2 h9) ?_
        intro x22 f23 h24 h25
        replace hb : zHd _ := hb x22.toInt (ziE f23) h24 h25
        rcases zcut a1.toInt x22.toInt with h26 | h26
        · skip
          replace hb : zHd _ := hb.1 h26
          refine w_cge_f dX8_isDream_12 (t := 19) rfl (by omega) ?_
          refine w_ic dX8_isDream_15 zi_1 ?_
          refine w_gt dX8_isDream_16 (t := 20) rfl ?_
          refine w_en dX8_isDream_20 rfl ?_
          show ZW _ _ _ _ _ _ _ (13, [some (.ref 0), some (.int a0), some (.int a1)], [.int 1], M0)
          refine w_ieq_f dX8_dreams_13 (t := 35) rfl (by have := zt_1; omega) ?_
          refine w_lo dX8_dreams_16 rfl rfl rfl rfl ?_
          refine w_gf dX8_dreams_17 rfl hJ0.1.1 zs_0 (zr_0_7 hJ0.1) ?_
          refine w_lo dX8_dreams_20 rfl rfl rfl rfl ?_
          refine w_gf dX8_dreams_21 rfl hJ0.1.1 zs_0 f8 ?_
          refine w_lo dX8_dreams_24 rfl rfl rfl rfl ?_
          refine w_gf dX8_dreams_25 rfl hJ0.1.1 zs_0 (zr_0_4 hJ0.1) ?_
          refine w_lo dX8_dreams_28 rfl rfl rfl rfl ?_
          refine w_iv dX8_dreams_29 rfl rfl (As := [.ref b7, .ref 49, .int a0]) rfl rfl hJ0.1.1 zs_359 (Nat.le_of_ble_eq_true rfl) ?_
          refine ZV.imp (k_770 b7 h9 49 hb_6_49 a0 (by omega) (by omega) hN hJ0.1) ?_
          rintro _ ⟨x30, M27, rfl, h31, h32, hJ28, hq29⟩
          replace hb : zHd _ := hb x30.toInt h31 h32 (zi M27) (zi_fr hJ28.2)
          have hJ34 := zJ_trans hJ0 hJ28 zSub_nil
          show ZW _ _ _ _ _ _ _ (32, [some (.ref 0), some (.int a0), some (.int a1)], [.int x30], M27)
          rcases Int.decEq x30.toInt (0 : Int) with h35 | h35
          · skip
            replace hb : zHd _ := hb.1 h35
            refine w_ine_t dX8_dreams_32 (t := 42) rfl (by omega) ?_
            refine w_lo dX8_dreams_42 rfl rfl rfl rfl ?_
            refine w_iv dX8_dreams_43 rfl rfl (As := []) rfl rfl hJ34.1.1 zs_0 (Nat.le_of_ble_eq_true rfl) ?_
            obtain ⟨P38, hp39, hb⟩ := hb
            replace hb : zHd _ := hb
            refine ZV.imp (u_2074 hN hJ34.1 hp39) ?_
            rintro _ ⟨M36, rfl, hJ37, hq40⟩
            replace hb : zHd _ := hb  (zi M36) (zi_fr hJ37.2) hq40
            have hJ42 := zJ_trans hJ34 hJ37 (zSub_cons (fun _ _ h h' hk => zIR_e (by omega) (by omega) hk) (zSub_cons (fun _ _ h h' hk => zIR_s (zIR_e (by omega) (by omega) hk)) (zSub_cons (fun _ _ h h' hk => zIR_s (zIR_s (zIR_e (by omega) (by omega) hk))) (zSub_cons (fun _ _ h h' hk => zIR_s (zIR_s (zIR_s (zIR_e (by omega) (by omega) hk)))) (zSub_cons (fun _ _ h h' hk => zIR_s (zIR_s (zIR_s (zIR_s (zIR_s (zIR_s (zIR_s (zIR_s (zIR_s (zIR_a (by omega) (by omega))))))))))) (zSub_cons (fun _ _ h h' hk => zIR_s (zIR_s (zIR_s (zIR_s (zIR_s (zIR_s (zIR_s (zIR_s (zIR_s (zIR_s (zIR_s (zIR_s (zIR_s (zIR_e (by omega) (by omega) hk)))))))))))))) (zSub_cons (fun _ _ h h' hk => zIR_s (zIR_s (zIR_s (zIR_s (zIR_s (zIR_s (zIR_s (zIR_s (zIR_s (zIR_s (zIR_s (zIR_s (zIR_s (zIR_s (zIR_e (by omega) (by omega) hk))))))))))))))) zSub_nil)))))))
            show ZW _ _ _ _ _ _ _ (46, [some (.ref 0), some (.int a0), some (.int a1)], [], M36)
            refine w_lo dX8_dreams_46 rfl rfl rfl rfl ?_
            refine w_gf dX8_dreams_47 rfl hJ42.1.1 zs_0 (zr_0_7 hJ42.1) ?_
            refine w_lo dX8_dreams_50 rfl rfl rfl rfl ?_
            have f43 := (hJ37.2 (0) 3 (zNI_k (by decide) (by decide) (zNI_k (by decide) (by decide) (zNI_k (by decide) (by decide) (zNI_k (by decide) (by decide) (zNI (by omega) (zNI_k (by decide) (by decide) (zNI_k (by decide) (by decide) zNI_nil)))))))).trans ((hJ28.2 (0) 3 zNI_nil).trans (f8))
            refine w_gf dX8_dreams_51 rfl hJ42.1.1 zs_0 f43 ?_
            refine w_lo dX8_dreams_54 rfl rfl rfl rfl ?_
            refine w_gf dX8_dreams_55 rfl hJ42.1.1 zs_0 (zr_0_4 hJ42.1) ?_
            refine w_lo dX8_dreams_58 rfl rfl rfl rfl ?_
            refine w_lo dX8_dreams_59 rfl rfl rfl rfl ?_
            refine w_ic dX8_dreams_60 zi_0 ?_
            obtain ⟨x46, f47, h48, h49⟩ := zB_cnt hJ42.1 zs_49 (Nat.le_of_ble_eq_true rfl) zo_49_14
            replace hb : zHd _ := hb x46.toInt (ziE f47) h48
            have h50 := hb.1
            replace hb : zHd _ := hb.2
            refine w_iv dX8_dreams_61 rfl rfl (As := [.ref b7, .ref 49, .int a0, .int a1, .int 0]) rfl rfl hJ42.1.1 zs_359 (Nat.le_of_ble_eq_true rfl) ?_
            refine ZV.imp (k_771 b7 h9 49 hb_6_49 a0 (by omega) (by omega) a1 (by omega) (by omega) 0 (by have := zt_0; omega) (by have := zt_0; omega) x46 f47 (by have := zt_0; omega) (by have := zt_0; omega) hN hJ42.1) ?_
            rintro _ ⟨x52, M44, rfl, h53, h54, hJ45, hq51⟩
            replace hb : zHd _ := hb x52.toInt h53 h54 (zi M44) (zi_fr hJ45.2)
            have hJ56 := zJ_trans hJ42 hJ45 (zSub_cons (fun _ _ h h' hk => ((zDm_or h9).elim (fun e => zIR_s (zIR_s (zIR_s (zIR_s (zIR_s (zIR_a (by omega) (by omega))))))) (fun e => zIR_s (zIR_s (zIR_s (zIR_s (zIR_s (zIR_s (zIR_a (by omega) (by omega)))))))))) (zSub_cons (fun _ _ h h' hk => zIR_s (zIR_s (zIR_s (zIR_s (zIR_s (zIR_s (zIR_s (zIR_a (by omega) (by omega))))))))) (zSub_cons (fun _ _ h h' hk => zIR_s (zIR_s (zIR_s (zIR_s (zIR_s (zIR_s (zIR_s (zIR_s (zIR_a (by omega) (by omega)))))))))) (zSub_cons (fun _ _ h h' hk => zIR_s (zIR_s (zIR_s (zIR_s (zIR_s (zIR_s (zIR_s (zIR_s (zIR_s (zIR_s (zIR_s (zIR_s (zIR_e (by omega) (by omega) hk))))))))))))) (zSub_cons (fun _ _ h h' hk => zIR_s (zIR_s (zIR_s (zIR_s (zIR_e (by omega) (by omega) hk))))) (zSub_cons (fun _ _ h h' hk => zIR_s (zIR_s (zIR_s (zIR_s (zIR_s (zIR_s (zIR_s (zIR_s (zIR_s (zIR_s (zIR_a (by omega) (by omega)))))))))))) zSub_nil))))))
            obtain ⟨x57, f58, h59, -⟩ := hq51
            replace hb : zHd _ := hb x57.toInt (ziE f58) h59
            have := zt_0
            show ZW _ _ _ _ _ _ _ (64, [some (.ref 0), some (.int a0), some (.int a1)], [.int x52], M44)
            refine w_eni dX8_dreams_64 rfl rfl ?_
            exact ⟨_, _, rfl, (by omega), (by omega), hJ56, hb⟩
          · skip
            replace hb : zHd _ := hb.2 h35
            refine w_ine_f dX8_dreams_32 (t := 42) rfl (by omega) ?_
            refine w_lo dX8_dreams_35 rfl rfl rfl rfl ?_
            refine w_ic dX8_dreams_36 zi_2 ?_
            refine w_iv dX8_dreams_37 rfl rfl (As := [.int 2]) rfl rfl hJ34.1.1 zs_0 (Nat.le_of_ble_eq_true rfl) ?_
            refine ZV.imp (k_2050 2 (by have := zt_2; omega) (by have := zt_2; omega) hN hJ34.1) ?_
            rintro _ ⟨M60, rfl, hJ61, hq62⟩
            replace hb : zHd _ := hb  (zi M60) (zi_fr hJ61.2)
            have hJ64 := zJ_trans hJ34 hJ61 (zSub_cons (fun _ _ h h' hk => zIR_s (zIR_s (zIR_s (zIR_s (zIR_s (zIR_s (zIR_s (zIR_s (zIR_s (zIR_s (zIR_s (zIR_a (by omega) (by omega))))))))))))) zSub_nil)
            show ZW _ _ _ _ _ _ _ (40, [some (.ref 0), some (.int a0), some (.int a1)], [], M60)
            refine w_ic dX8_dreams_40 zi_m1 ?_
            refine w_en dX8_dreams_41 rfl ?_
            exact ⟨_, _, rfl, (by have := zt_m1; omega), (by have := zt_m1; omega), hJ64, hb⟩
        · skip
          replace hb : zHd _ := hb.2 h26
          refine w_cge_t dX8_isDream_12 (t := 19) rfl (by omega) ?_
          refine w_ic dX8_isDream_19 zi_0 ?_
          refine w_en dX8_isDream_20 rfl ?_
          show ZW _ _ _ _ _ _ _ (13, [some (.ref 0), some (.int a0), some (.int a1)], [.int 0], M0)
          refine w_ieq_t dX8_dreams_13 (t := 35) rfl (by have := zt_0; omega) ?_
          refine w_lo dX8_dreams_35 rfl rfl rfl rfl ?_
          refine w_ic dX8_dreams_36 zi_2 ?_
          refine w_iv dX8_dreams_37 rfl rfl (As := [.int 2]) rfl rfl hJ0.1.1 zs_0 (Nat.le_of_ble_eq_true rfl) ?_
          refine ZV.imp (k_2050 2 (by have := zt_2; omega) (by have := zt_2; omega) hN hJ0.1) ?_
          rintro _ ⟨M65, rfl, hJ66, hq67⟩
          replace hb : zHd _ := hb  (zi M65) (zi_fr hJ66.2)
          have hJ69 := zJ_trans hJ0 hJ66 (zSub_cons (fun _ _ h h' hk => zIR_s (zIR_s (zIR_s (zIR_s (zIR_s (zIR_s (zIR_s (zIR_s (zIR_s (zIR_s (zIR_s (zIR_a (by omega) (by omega))))))))))))) zSub_nil)
          show ZW _ _ _ _ _ _ _ (40, [some (.ref 0), some (.int a0), some (.int a1)], [], M65)
          refine w_ic dX8_dreams_40 zi_m1 ?_
          refine w_en dX8_dreams_41 rfl ?_
          exact ⟨_, _, rfl, (by have := zt_m1; omega), (by have := zt_m1; omega), hJ69, hb⟩
    · skip
      replace hb : zHd _ := hb.2 h15
      refine w_cge_t dX8_isBoy_12 (t := 19) rfl (by omega) ?_
      refine w_ic dX8_isBoy_19 zi_0 ?_
      refine w_en dX8_isBoy_20 rfl ?_
      show ZW _ _ _ _ _ _ _ (5, [some (.ref 0), some (.int a0), some (.int a1)], [.int 0], M0)
      refine w_ieq_t dX8_dreams_5 (t := 35) rfl (by have := zt_0; omega) ?_
      refine w_lo dX8_dreams_35 rfl rfl rfl rfl ?_
      refine w_ic dX8_dreams_36 zi_2 ?_
      refine w_iv dX8_dreams_37 rfl rfl (As := [.int 2]) rfl rfl hJ0.1.1 zs_0 (Nat.le_of_ble_eq_true rfl) ?_
      refine ZV.imp (k_2050 2 (by have := zt_2; omega) (by have := zt_2; omega) hN hJ0.1) ?_
      rintro _ ⟨M70, rfl, hJ71, hq72⟩
      replace hb : zHd _ := hb  (zi M70) (zi_fr hJ71.2)
      have hJ74 := zJ_trans hJ0 hJ71 (zSub_cons (fun _ _ h h' hk => zIR_s (zIR_s (zIR_s (zIR_s (zIR_s (zIR_s (zIR_s (zIR_s (zIR_s (zIR_s (zIR_s (zIR_a (by omega) (by omega))))))))))))) zSub_nil)
      show ZW _ _ _ _ _ _ _ (40, [some (.ref 0), some (.int a0), some (.int a1)], [], M70)
      refine w_ic dX8_dreams_40 zi_m1 ?_
      refine w_en dX8_dreams_41 rfl ?_
      exact ⟨_, _, rfl, (by have := zt_m1; omega), (by have := zt_m1; omega), hJ74, hb⟩
set_option maxRecDepth 100000 in
theorem u_2076 {X : List Int32} {d N : Nat} {M0 : zM} (a0 : Int32) (a1 : Int32) (ha10 : (0 : Int) ≤ a1.toInt) (ha11 : a1.toInt ≤ 1) (hN : N ≤ 600) (hB0 : zB N M0) {Q : Int → zF → Prop} (hb : b_2076 (zi M0) a0.toInt a1.toInt Q) : ZV X (d + 5) 2076 [.ref 0, .int a0, .int a1] M0 (zRI N [(77, 78, 0), (79, 346, 0), (77, 78, 1), (79, 346, 1), (51, 55, 1000), (80, 359, 1000), (385, 386, 1000), (79, 346, 14), (0, 1, 15)] M0 (0) (1) (fun v M' => Q v.toInt (zi M'))) := by
  have hJ0 : zJ N [(77, 78, 0), (79, 346, 0), (77, 78, 1), (79, 346, 1), (51, 55, 1000), (80, 359, 1000), (385, 386, 1000), (79, 346, 14), (0, 1, 15)] M0 M0 := zJ_refl hB0
  refine ZV.of (ini := false) rfl (Nat.le_of_ble_eq_true rfl) (by decide +kernel) ?_
  unfold b_2076 at hb
  replace hb : zHd _ := hb
  show ZW _ _ _ _ _ _ _ (0, [some (.ref 0), some (.int a0), some (.int a1)], [], M0)
  refine w_lo dX8_wake_0 rfl rfl rfl rfl ?_
  refine w_lo dX8_wake_1 rfl rfl rfl rfl ?_
  refine w_iv dX8_wake_2 rfl rfl (As := [.int a0]) rfl rfl hJ0.1.1 zs_0 (Nat.le_of_ble_eq_true rfl) ?_
  refine ZV.of (ini := false) rfl (Nat.le_of_ble_eq_true rfl) (by decide +kernel) ?_
  show ZW _ _ _ _ _ _ _ (0, [some (.ref 0), some (.int a0)], [], M0)
  refine w_lo dX8_isBoy_0 rfl rfl rfl rfl ?_
  rcases zcut a0.toInt (0 : Int) with h1 | h1
  · skip
    replace hb : zHd _ := hb.1 h1
    refine w_ilt_t dX8_isBoy_1 (t := 19) rfl (by omega) ?_
    refine w_ic dX8_isBoy_19 zi_0 ?_
    refine w_en dX8_isBoy_20 rfl ?_
    show ZW _ _ _ _ _ _ _ (5, [some (.ref 0), some (.int a0), some (.int a1)], [.int 0], M0)
    refine w_ieq_t dX8_wake_5 (t := 21) rfl (by have := zt_0; omega) ?_
    refine w_lo dX8_wake_21 rfl rfl rfl rfl ?_
    refine w_ic dX8_wake_22 zi_2 ?_
    refine w_iv dX8_wake_23 rfl rfl (As := [.int 2]) rfl rfl hJ0.1.1 zs_0 (Nat.le_of_ble_eq_true rfl) ?_
    refine ZV.imp (k_2050 2 (by have := zt_2; omega) (by have := zt_2; omega) hN hJ0.1) ?_
    rintro _ ⟨M2, rfl, hJ3, hq4⟩
    replace hb : zHd _ := hb  (zi M2) (zi_fr hJ3.2)
    have hJ6 := zJ_trans hJ0 hJ3 (zSub_cons (fun _ _ h h' hk => zIR_s (zIR_s (zIR_s (zIR_s (zIR_s (zIR_s (zIR_a (by omega) (by omega)))))))) zSub_nil)
    show ZW _ _ _ _ _ _ _ (26, [some (.ref 0), some (.int a0), some (.int a1)], [], M2)
    refine w_ic dX8_wake_26 zi_0 ?_
    refine w_en dX8_wake_27 rfl ?_
    exact ⟨_, _, rfl, (by have := zt_0; omega), (by have := zt_0; omega), hJ6, hb⟩
  · skip
    replace hb : zHd _ := hb.2 h1
    refine w_ilt_f dX8_isBoy_1 (t := 19) rfl (by omega) ?_
    refine w_lo dX8_isBoy_4 rfl rfl rfl rfl ?_
    refine w_lo dX8_isBoy_5 rfl rfl rfl rfl ?_
    obtain ⟨b7, f8, h9⟩ := zd_0_3 hJ0.1
    have h10 := zDm_b h9
    refine w_gf dX8_isBoy_6 rfl hJ0.1.1 zs_0 f8 ?_
    replace hb : zHd _ := hb b7 (ziR f8) (zDm_or h9)
    refine w_gfi dX8_isBoy_9 rfl hJ0.1 (zs_1_0 h9) (Nat.le_of_ble_eq_true rfl) (zo_1_0_1 h9) ?_
    intro x11 f12 h13 h14
    replace hb : zHd _ := hb x11.toInt (ziE f12) h13 h14
    rcases zcut a0.toInt x11.toInt with h15 | h15
    · skip
      replace hb : zHd _ := hb.1 h15
      refine w_cge_f dX8_isBoy_12 (t := 19) rfl (by omega) ?_
      refine w_ic dX8_isBoy_15 zi_1 ?_
      refine w_gt dX8_isBoy_16 (t := 20) rfl ?_
      refine w_en dX8_isBoy_20 rfl ?_
      show ZW _ _ _ _ _ _ _ (5, [some (.ref 0), some (.int a0), some (.int a1)], [.int 1], M0)
      refine w_ieq_f dX8_wake_5 (t := 21) rfl (by have := zt_1; omega) ?_
      refine w_lo dX8_wake_8 rfl rfl rfl rfl ?_
      refine w_gf dX8_wake_9 rfl hJ0.1.1 zs_0 (zr_0_4 hJ0.1) ?_
      refine w_gf dX8_wake_12 rfl hJ0.1.1 zs_49 (zr_49_3 hJ0.1) ?_
      refine w_lo dX8_wake_15 rfl rfl rfl rfl ?_
      refine w_bai dX8_wake_16 hJ0.1 zs_51 (by omega) (by omega) zu_51 ?_
      intro x19 f16 h17 h18
      replace hb : zHd _ := hb x19.toInt (ziEk f16 rfl) h17 h18
      refine w_lo dX8_wake_17 rfl rfl rfl rfl ?_
      rcases Int.decEq x19.toInt a1.toInt with h20 | h20
      · skip
        replace hb : zHd _ := hb.1 h20
        refine w_ceq_f dX8_wake_18 (t := 28) rfl (by omega) ?_
        refine w_lo dX8_wake_21 rfl rfl rfl rfl ?_
        refine w_ic dX8_wake_22 zi_2 ?_
        refine w_iv dX8_wake_23 rfl rfl (As := [.int 2]) rfl rfl hJ0.1.1 zs_0 (Nat.le_of_ble_eq_true rfl) ?_
        refine ZV.imp (k_2050 2 (by have := zt_2; omega) (by have := zt_2; omega) hN hJ0.1) ?_
        rintro _ ⟨M21, rfl, hJ22, hq23⟩
        replace hb : zHd _ := hb  (zi M21) (zi_fr hJ22.2)
        have hJ25 := zJ_trans hJ0 hJ22 (zSub_cons (fun _ _ h h' hk => zIR_s (zIR_s (zIR_s (zIR_s (zIR_s (zIR_s (zIR_a (by omega) (by omega)))))))) zSub_nil)
        show ZW _ _ _ _ _ _ _ (26, [some (.ref 0), some (.int a0), some (.int a1)], [], M21)
        refine w_ic dX8_wake_26 zi_0 ?_
        refine w_en dX8_wake_27 rfl ?_
        exact ⟨_, _, rfl, (by have := zt_0; omega), (by have := zt_0; omega), hJ25, hb⟩
      · skip
        replace hb : zHd _ := hb.2 h20
        refine w_ceq_t dX8_wake_18 (t := 28) rfl (by omega) ?_
        refine w_lo dX8_wake_28 rfl rfl rfl rfl ?_
        refine w_iv dX8_wake_29 rfl rfl (As := []) rfl rfl hJ0.1.1 zs_0 (Nat.le_of_ble_eq_true rfl) ?_
        obtain ⟨P28, hp29, hb⟩ := hb
        replace hb : zHd _ := hb
        refine ZV.imp (u_2074 hN hJ0.1 hp29) ?_
        rintro _ ⟨M26, rfl, hJ27, hq30⟩
        replace hb : zHd _ := hb  (zi M26) (zi_fr hJ27.2) hq30
        have hJ32 := zJ_trans hJ0 hJ27 (zSub_cons (fun _ _ h h' hk => zIR_e (by omega) (by omega) hk) (zSub_cons (fun _ _ h h' hk => zIR_s (zIR_e (by omega) (by omega) hk)) (zSub_cons (fun _ _ h h' hk => zIR_s (zIR_s (zIR_e (by omega) (by omega) hk))) (zSub_cons (fun _ _ h h' hk => zIR_s (zIR_s (zIR_s (zIR_e (by omega) (by omega) hk)))) (zSub_cons (fun _ _ h h' hk => zIR_s (zIR_s (zIR_s (zIR_s (zIR_s (zIR_a (by omega) (by omega))))))) (zSub_cons (fun _ _ h h' hk => zIR_s (zIR_s (zIR_s (zIR_s (zIR_s (zIR_s (zIR_s (zIR_e (by omega) (by omega) hk)))))))) (zSub_cons (fun _ _ h h' hk => zIR_s (zIR_s (zIR_s (zIR_s (zIR_s (zIR_s (zIR_s (zIR_s (zIR_e (by omega) (by omega) hk))))))))) zSub_nil)))))))
        show ZW _ _ _ _ _ _ _ (32, [some (.ref 0), some (.int a0), some (.int a1)], [], M26)
        refine w_lo dX8_wake_32 rfl rfl rfl rfl ?_
        rcases Int.decEq a1.toInt (0 : Int) with h33 | h33
        · skip
          replace hb : zHd _ := hb.1 h33
          refine w_ieq_f dX8_wake_33 (t := 47) rfl (by omega) ?_
          refine w_lo dX8_wake_36 rfl rfl rfl rfl ?_
          refine w_gf dX8_wake_37 rfl hJ32.1.1 zs_0 (zr_0_4 hJ32.1) ?_
          refine w_lo dX8_wake_40 rfl rfl rfl rfl ?_
          refine w_iv dX8_wake_41 rfl rfl (As := [.int a0]) rfl rfl hJ32.1.1 zs_49 (Nat.le_of_ble_eq_true rfl) ?_
          refine ZV.imp (k_1546 49 hb_6_49 a0 (by omega) (by omega) hN hJ32.1) ?_
          rintro _ ⟨M34, rfl, hJ35, hq36⟩
          replace hb : zHd _ := hb  (zi M34) (zi_fr hJ35.2)
          have hJ38 := zJ_trans hJ32 hJ35 (zSub_cons (fun _ _ h h' hk => zIR_s (zIR_s (zIR_s (zIR_s (zIR_a (by omega) (by omega)))))) zSub_nil)
          show ZW _ _ _ _ _ _ _ (44, [some (.ref 0), some (.int a0), some (.int a1)], [], M34)
          refine w_gt dX8_wake_44 (t := 57) rfl ?_
          refine w_ic dX8_wake_57 zi_1 ?_
          refine w_en dX8_wake_58 rfl ?_
          exact ⟨_, _, rfl, (by have := zt_1; omega), (by have := zt_1; omega), hJ38, hb⟩
        · skip
          replace hb : zHd _ := hb.2 h33
          refine w_ieq_t dX8_wake_33 (t := 47) rfl (by omega) ?_
          refine w_lo dX8_wake_47 rfl rfl rfl rfl ?_
          refine w_gf dX8_wake_48 rfl hJ32.1.1 zs_0 (zr_0_4 hJ32.1) ?_
          refine w_gf dX8_wake_51 rfl hJ32.1.1 zs_49 (zr_49_3 hJ32.1) ?_
          refine w_lo dX8_wake_54 rfl rfl rfl rfl ?_
          refine w_ic dX8_wake_55 zi_1 ?_
          refine w_bsi dX8_wake_56 hJ32 zs_51 (by omega) (by omega) zu_51 (by have := zt_1; omega) (by have := zt_1; omega) (zIR_s (zIR_s (zIR_s (zIR_s (zIR_a (by omega) (by omega)))))) ?_
          intro M39 hJ40 f41 hn42
          replace hb : zHd _ := hb (zi M39) (zi_zup hn42 f41 rfl zt_1)
          refine w_ic dX8_wake_57 zi_1 ?_
          refine w_en dX8_wake_58 rfl ?_
          exact ⟨_, _, rfl, (by have := zt_1; omega), (by have := zt_1; omega), hJ40, hb⟩
    · skip
      replace hb : zHd _ := hb.2 h15
      refine w_cge_t dX8_isBoy_12 (t := 19) rfl (by omega) ?_
      refine w_ic dX8_isBoy_19 zi_0 ?_
      refine w_en dX8_isBoy_20 rfl ?_
      show ZW _ _ _ _ _ _ _ (5, [some (.ref 0), some (.int a0), some (.int a1)], [.int 0], M0)
      refine w_ieq_t dX8_wake_5 (t := 21) rfl (by have := zt_0; omega) ?_
      refine w_lo dX8_wake_21 rfl rfl rfl rfl ?_
      refine w_ic dX8_wake_22 zi_2 ?_
      refine w_iv dX8_wake_23 rfl rfl (As := [.int 2]) rfl rfl hJ0.1.1 zs_0 (Nat.le_of_ble_eq_true rfl) ?_
      refine ZV.imp (k_2050 2 (by have := zt_2; omega) (by have := zt_2; omega) hN hJ0.1) ?_
      rintro _ ⟨M44, rfl, hJ45, hq46⟩
      replace hb : zHd _ := hb  (zi M44) (zi_fr hJ45.2)
      have hJ48 := zJ_trans hJ0 hJ45 (zSub_cons (fun _ _ h h' hk => zIR_s (zIR_s (zIR_s (zIR_s (zIR_s (zIR_s (zIR_a (by omega) (by omega)))))))) zSub_nil)
      show ZW _ _ _ _ _ _ _ (26, [some (.ref 0), some (.int a0), some (.int a1)], [], M44)
      refine w_ic dX8_wake_26 zi_0 ?_
      refine w_en dX8_wake_27 rfl ?_
      exact ⟨_, _, rfl, (by have := zt_0; omega), (by have := zt_0; omega), hJ48, hb⟩
set_option maxRecDepth 100000 in
theorem u_2077 {X : List Int32} {d N : Nat} {M0 : zM} (a0 : Int32) (a1 : Int32) (ha10 : (0 : Int) ≤ a1.toInt) (ha11 : a1.toInt ≤ 1) (hN : N ≤ 600) (hB0 : zB N M0) {Q : Int → zF → Prop} (hb : b_2077 (zi M0) a0.toInt a1.toInt Q) : ZV X (d + 5) 2077 [.ref 0, .int a0, .int a1] M0 (zRI N [(77, 78, 0), (79, 346, 0), (77, 78, 1), (79, 346, 1), (60, 61, 1000), (80, 359, 1000), (385, 386, 1000), (79, 346, 14), (0, 1, 15)] M0 (0) (1) (fun v M' => Q v.toInt (zi M'))) := by
  have hJ0 : zJ N [(77, 78, 0), (79, 346, 0), (77, 78, 1), (79, 346, 1), (60, 61, 1000), (80, 359, 1000), (385, 386, 1000), (79, 346, 14), (0, 1, 15)] M0 M0 := zJ_refl hB0
  refine ZV.of (ini := false) rfl (Nat.le_of_ble_eq_true rfl) (by decide +kernel) ?_
  unfold b_2077 at hb
  replace hb : zHd _ := hb
  show ZW _ _ _ _ _ _ _ (0, [some (.ref 0), some (.int a0), some (.int a1)], [], M0)
  refine w_lo dX8_tie_0 rfl rfl rfl rfl ?_
  refine w_lo dX8_tie_1 rfl rfl rfl rfl ?_
  refine w_iv dX8_tie_2 rfl rfl (As := [.int a0]) rfl rfl hJ0.1.1 zs_0 (Nat.le_of_ble_eq_true rfl) ?_
  refine ZV.of (ini := false) rfl (Nat.le_of_ble_eq_true rfl) (by decide +kernel) ?_
  show ZW _ _ _ _ _ _ _ (0, [some (.ref 0), some (.int a0)], [], M0)
  refine w_lo dX8_isKnot_0 rfl rfl rfl rfl ?_
  rcases zcut a0.toInt (0 : Int) with h1 | h1
  · skip
    replace hb : zHd _ := hb.1 h1
    refine w_ilt_t dX8_isKnot_1 (t := 21) rfl (by omega) ?_
    refine w_ic dX8_isKnot_21 zi_0 ?_
    refine w_en dX8_isKnot_22 rfl ?_
    show ZW _ _ _ _ _ _ _ (5, [some (.ref 0), some (.int a0), some (.int a1)], [.int 0], M0)
    refine w_ieq_t dX8_tie_5 (t := 21) rfl (by have := zt_0; omega) ?_
    refine w_lo dX8_tie_21 rfl rfl rfl rfl ?_
    refine w_ic dX8_tie_22 zi_3 ?_
    refine w_iv dX8_tie_23 rfl rfl (As := [.int 3]) rfl rfl hJ0.1.1 zs_0 (Nat.le_of_ble_eq_true rfl) ?_
    refine ZV.imp (k_2050 3 (by have := zt_3; omega) (by have := zt_3; omega) hN hJ0.1) ?_
    rintro _ ⟨M2, rfl, hJ3, hq4⟩
    replace hb : zHd _ := hb  (zi M2) (zi_fr hJ3.2)
    have hJ6 := zJ_trans hJ0 hJ3 (zSub_cons (fun _ _ h h' hk => zIR_s (zIR_s (zIR_s (zIR_s (zIR_s (zIR_s (zIR_a (by omega) (by omega)))))))) zSub_nil)
    show ZW _ _ _ _ _ _ _ (26, [some (.ref 0), some (.int a0), some (.int a1)], [], M2)
    refine w_ic dX8_tie_26 zi_0 ?_
    refine w_en dX8_tie_27 rfl ?_
    exact ⟨_, _, rfl, (by have := zt_0; omega), (by have := zt_0; omega), hJ6, hb⟩
  · skip
    replace hb : zHd _ := hb.2 h1
    refine w_ilt_f dX8_isKnot_1 (t := 21) rfl (by omega) ?_
    refine w_lo dX8_isKnot_4 rfl rfl rfl rfl ?_
    refine w_lo dX8_isKnot_5 rfl rfl rfl rfl ?_
    refine w_gf dX8_isKnot_6 rfl hJ0.1.1 zs_0 (zr_0_4 hJ0.1) ?_
    refine w_gfi dX8_isKnot_9 rfl hJ0.1 zs_49 (Nat.le_of_ble_eq_true rfl) zo_49_0 ?_
    intro x7 f8 h9 h10
    replace hb : zHd _ := hb x7.toInt (ziE f8) h9 h10
    refine w_ic dX8_isKnot_12 zi_1 ?_
    refine w_sub dX8_isKnot_13 (by have := zt_1; omega) ?_
    intro x11 h12
    have := zt_1
    replace hb : zHd _ := hb x11.toInt (by have := zt_1; omega)
    rcases zcut a0.toInt x11.toInt with h13 | h13
    · skip
      replace hb : zHd _ := hb.1 h13
      refine w_cge_f dX8_isKnot_14 (t := 21) rfl (by omega) ?_
      refine w_ic dX8_isKnot_17 zi_1 ?_
      refine w_gt dX8_isKnot_18 (t := 22) rfl ?_
      refine w_en dX8_isKnot_22 rfl ?_
      show ZW _ _ _ _ _ _ _ (5, [some (.ref 0), some (.int a0), some (.int a1)], [.int 1], M0)
      refine w_ieq_f dX8_tie_5 (t := 21) rfl (by have := zt_1; omega) ?_
      refine w_lo dX8_tie_8 rfl rfl rfl rfl ?_
      refine w_gf dX8_tie_9 rfl hJ0.1.1 zs_0 (zr_0_4 hJ0.1) ?_
      refine w_gf dX8_tie_12 rfl hJ0.1.1 zs_49 (zr_49_12 hJ0.1) ?_
      refine w_lo dX8_tie_15 rfl rfl rfl rfl ?_
      refine w_bai dX8_tie_16 hJ0.1 zs_60 (by omega) (by omega) zu_60 ?_
      intro x17 f14 h15 h16
      replace hb : zHd _ := hb x17.toInt (ziEk f14 rfl) h15 h16
      refine w_lo dX8_tie_17 rfl rfl rfl rfl ?_
      rcases Int.decEq x17.toInt a1.toInt with h18 | h18
      · skip
        replace hb : zHd _ := hb.1 h18
        refine w_cne_t dX8_tie_18 (t := 28) rfl (by omega) ?_
        refine w_lo dX8_tie_28 rfl rfl rfl rfl ?_
        refine w_iv dX8_tie_29 rfl rfl (As := []) rfl rfl hJ0.1.1 zs_0 (Nat.le_of_ble_eq_true rfl) ?_
        obtain ⟨P21, hp22, hb⟩ := hb
        replace hb : zHd _ := hb
        refine ZV.imp (u_2074 hN hJ0.1 hp22) ?_
        rintro _ ⟨M19, rfl, hJ20, hq23⟩
        replace hb : zHd _ := hb  (zi M19) (zi_fr hJ20.2) hq23
        have hJ25 := zJ_trans hJ0 hJ20 (zSub_cons (fun _ _ h h' hk => zIR_e (by omega) (by omega) hk) (zSub_cons (fun _ _ h h' hk => zIR_s (zIR_e (by omega) (by omega) hk)) (zSub_cons (fun _ _ h h' hk => zIR_s (zIR_s (zIR_e (by omega) (by omega) hk))) (zSub_cons (fun _ _ h h' hk => zIR_s (zIR_s (zIR_s (zIR_e (by omega) (by omega) hk)))) (zSub_cons (fun _ _ h h' hk => zIR_s (zIR_s (zIR_s (zIR_s (zIR_s (zIR_a (by omega) (by omega))))))) (zSub_cons (fun _ _ h h' hk => zIR_s (zIR_s (zIR_s (zIR_s (zIR_s (zIR_s (zIR_s (zIR_e (by omega) (by omega) hk)))))))) (zSub_cons (fun _ _ h h' hk => zIR_s (zIR_s (zIR_s (zIR_s (zIR_s (zIR_s (zIR_s (zIR_s (zIR_e (by omega) (by omega) hk))))))))) zSub_nil)))))))
        show ZW _ _ _ _ _ _ _ (32, [some (.ref 0), some (.int a0), some (.int a1)], [], M19)
        refine w_lo dX8_tie_32 rfl rfl rfl rfl ?_
        refine w_gf dX8_tie_33 rfl hJ25.1.1 zs_0 (zr_0_4 hJ25.1) ?_
        refine w_gf dX8_tie_36 rfl hJ25.1.1 zs_49 (zr_49_12 hJ25.1) ?_
        refine w_lo dX8_tie_39 rfl rfl rfl rfl ?_
        refine w_lo dX8_tie_40 rfl rfl rfl rfl ?_
        refine w_bsi dX8_tie_41 hJ25 zs_60 (by omega) (by omega) zu_60 (by omega) (by omega) (zIR_s (zIR_s (zIR_s (zIR_s (zIR_a (by omega) (by omega)))))) ?_
        intro M26 hJ27 f28 hn29
        replace hb : zHd _ := hb (zi M26) (zi_zup hn29 f28 rfl rfl)
        refine w_ic dX8_tie_42 zi_1 ?_
        refine w_en dX8_tie_43 rfl ?_
        exact ⟨_, _, rfl, (by have := zt_1; omega), (by have := zt_1; omega), hJ27, hb⟩
      · skip
        replace hb : zHd _ := hb.2 h18
        refine w_cne_f dX8_tie_18 (t := 28) rfl (by omega) ?_
        refine w_lo dX8_tie_21 rfl rfl rfl rfl ?_
        refine w_ic dX8_tie_22 zi_3 ?_
        refine w_iv dX8_tie_23 rfl rfl (As := [.int 3]) rfl rfl hJ0.1.1 zs_0 (Nat.le_of_ble_eq_true rfl) ?_
        refine ZV.imp (k_2050 3 (by have := zt_3; omega) (by have := zt_3; omega) hN hJ0.1) ?_
        rintro _ ⟨M31, rfl, hJ32, hq33⟩
        replace hb : zHd _ := hb  (zi M31) (zi_fr hJ32.2)
        have hJ35 := zJ_trans hJ0 hJ32 (zSub_cons (fun _ _ h h' hk => zIR_s (zIR_s (zIR_s (zIR_s (zIR_s (zIR_s (zIR_a (by omega) (by omega)))))))) zSub_nil)
        show ZW _ _ _ _ _ _ _ (26, [some (.ref 0), some (.int a0), some (.int a1)], [], M31)
        refine w_ic dX8_tie_26 zi_0 ?_
        refine w_en dX8_tie_27 rfl ?_
        exact ⟨_, _, rfl, (by have := zt_0; omega), (by have := zt_0; omega), hJ35, hb⟩
    · skip
      replace hb : zHd _ := hb.2 h13
      refine w_cge_t dX8_isKnot_14 (t := 21) rfl (by omega) ?_
      refine w_ic dX8_isKnot_21 zi_0 ?_
      refine w_en dX8_isKnot_22 rfl ?_
      show ZW _ _ _ _ _ _ _ (5, [some (.ref 0), some (.int a0), some (.int a1)], [.int 0], M0)
      refine w_ieq_t dX8_tie_5 (t := 21) rfl (by have := zt_0; omega) ?_
      refine w_lo dX8_tie_21 rfl rfl rfl rfl ?_
      refine w_ic dX8_tie_22 zi_3 ?_
      refine w_iv dX8_tie_23 rfl rfl (As := [.int 3]) rfl rfl hJ0.1.1 zs_0 (Nat.le_of_ble_eq_true rfl) ?_
      refine ZV.imp (k_2050 3 (by have := zt_3; omega) (by have := zt_3; omega) hN hJ0.1) ?_
      rintro _ ⟨M36, rfl, hJ37, hq38⟩
      replace hb : zHd _ := hb  (zi M36) (zi_fr hJ37.2)
      have hJ40 := zJ_trans hJ0 hJ37 (zSub_cons (fun _ _ h h' hk => zIR_s (zIR_s (zIR_s (zIR_s (zIR_s (zIR_s (zIR_a (by omega) (by omega)))))))) zSub_nil)
      show ZW _ _ _ _ _ _ _ (26, [some (.ref 0), some (.int a0), some (.int a1)], [], M36)
      refine w_ic dX8_tie_26 zi_0 ?_
      refine w_en dX8_tie_27 rfl ?_
      exact ⟨_, _, rfl, (by have := zt_0; omega), (by have := zt_0; omega), hJ40, hb⟩
set_option maxRecDepth 100000 in
theorem u_2078 {X : List Int32} {d N : Nat} {M0 : zM} (a0 : Int32) (a1 : Int32) (hN : N ≤ 600) (hB0 : zB N M0) {Q : Int → zF → Prop} (hb : b_2078 (zi M0) a0.toInt a1.toInt Q) : ZV X (d + 5) 2078 [.ref 0, .int a0, .int a1] M0 (zRI N [(77, 78, 0), (79, 346, 0), (77, 78, 1), (79, 346, 1), (61, 62, 1000), (80, 359, 1000), (385, 386, 1000), (79, 346, 14), (0, 1, 15)] M0 (-1) (255) (fun v M' => Q v.toInt (zi M'))) := by
  have hJ0 : zJ N [(77, 78, 0), (79, 346, 0), (77, 78, 1), (79, 346, 1), (61, 62, 1000), (80, 359, 1000), (385, 386, 1000), (79, 346, 14), (0, 1, 15)] M0 M0 := zJ_refl hB0
  refine ZV.of (ini := false) rfl (Nat.le_of_ble_eq_true rfl) (by decide +kernel) ?_
  unfold b_2078 at hb
  replace hb : zHd _ := hb
  show ZW _ _ _ _ _ _ _ (0, [some (.ref 0), some (.int a0), some (.int a1), none], [], M0)
  refine w_lo dX8_slack_0 rfl rfl rfl rfl ?_
  refine w_lo dX8_slack_1 rfl rfl rfl rfl ?_
  refine w_iv dX8_slack_2 rfl rfl (As := [.int a0]) rfl rfl hJ0.1.1 zs_0 (Nat.le_of_ble_eq_true rfl) ?_
  refine ZV.of (ini := false) rfl (Nat.le_of_ble_eq_true rfl) (by decide +kernel) ?_
  show ZW _ _ _ _ _ _ _ (0, [some (.ref 0), some (.int a0)], [], M0)
  refine w_lo dX8_isKnot_0 rfl rfl rfl rfl ?_
  rcases zcut a0.toInt (0 : Int) with h1 | h1
  · skip
    replace hb : zHd _ := hb.1 h1
    refine w_ilt_t dX8_isKnot_1 (t := 21) rfl (by omega) ?_
    refine w_ic dX8_isKnot_21 zi_0 ?_
    refine w_en dX8_isKnot_22 rfl ?_
    show ZW _ _ _ _ _ _ _ (5, [some (.ref 0), some (.int a0), some (.int a1), none], [.int 0], M0)
    refine w_ieq_t dX8_slack_5 (t := 18) rfl (by have := zt_0; omega) ?_
    refine w_lo dX8_slack_18 rfl rfl rfl rfl ?_
    refine w_ic dX8_slack_19 zi_3 ?_
    refine w_iv dX8_slack_20 rfl rfl (As := [.int 3]) rfl rfl hJ0.1.1 zs_0 (Nat.le_of_ble_eq_true rfl) ?_
    refine ZV.imp (k_2050 3 (by have := zt_3; omega) (by have := zt_3; omega) hN hJ0.1) ?_
    rintro _ ⟨M2, rfl, hJ3, hq4⟩
    replace hb : zHd _ := hb  (zi M2) (zi_fr hJ3.2)
    have hJ6 := zJ_trans hJ0 hJ3 (zSub_cons (fun _ _ h h' hk => zIR_s (zIR_s (zIR_s (zIR_s (zIR_s (zIR_s (zIR_a (by omega) (by omega)))))))) zSub_nil)
    show ZW _ _ _ _ _ _ _ (23, [some (.ref 0), some (.int a0), some (.int a1), none], [], M2)
    refine w_ic dX8_slack_23 zi_m1 ?_
    refine w_en dX8_slack_24 rfl ?_
    exact ⟨_, _, rfl, (by have := zt_m1; omega), (by have := zt_m1; omega), hJ6, hb⟩
  · skip
    replace hb : zHd _ := hb.2 h1
    refine w_ilt_f dX8_isKnot_1 (t := 21) rfl (by omega) ?_
    refine w_lo dX8_isKnot_4 rfl rfl rfl rfl ?_
    refine w_lo dX8_isKnot_5 rfl rfl rfl rfl ?_
    refine w_gf dX8_isKnot_6 rfl hJ0.1.1 zs_0 (zr_0_4 hJ0.1) ?_
    refine w_gfi dX8_isKnot_9 rfl hJ0.1 zs_49 (Nat.le_of_ble_eq_true rfl) zo_49_0 ?_
    intro x7 f8 h9 h10
    replace hb : zHd _ := hb x7.toInt (ziE f8) h9 h10
    refine w_ic dX8_isKnot_12 zi_1 ?_
    refine w_sub dX8_isKnot_13 (by have := zt_1; omega) ?_
    intro x11 h12
    have := zt_1
    replace hb : zHd _ := hb x11.toInt (by have := zt_1; omega)
    rcases zcut a0.toInt x11.toInt with h13 | h13
    · skip
      replace hb : zHd _ := hb.1 h13
      refine w_cge_f dX8_isKnot_14 (t := 21) rfl (by omega) ?_
      refine w_ic dX8_isKnot_17 zi_1 ?_
      refine w_gt dX8_isKnot_18 (t := 22) rfl ?_
      refine w_en dX8_isKnot_22 rfl ?_
      show ZW _ _ _ _ _ _ _ (5, [some (.ref 0), some (.int a0), some (.int a1), none], [.int 1], M0)
      refine w_ieq_f dX8_slack_5 (t := 18) rfl (by have := zt_1; omega) ?_
      refine w_lo dX8_slack_8 rfl rfl rfl rfl ?_
      rcases zcut a1.toInt (0 : Int) with h14 | h14
      · skip
        replace hb : zHd _ := hb.1 h14
        refine w_ilt_t dX8_slack_9 (t := 18) rfl (by omega) ?_
        refine w_lo dX8_slack_18 rfl rfl rfl rfl ?_
        refine w_ic dX8_slack_19 zi_3 ?_
        refine w_iv dX8_slack_20 rfl rfl (As := [.int 3]) rfl rfl hJ0.1.1 zs_0 (Nat.le_of_ble_eq_true rfl) ?_
        refine ZV.imp (k_2050 3 (by have := zt_3; omega) (by have := zt_3; omega) hN hJ0.1) ?_
        rintro _ ⟨M15, rfl, hJ16, hq17⟩
        replace hb : zHd _ := hb  (zi M15) (zi_fr hJ16.2)
        have hJ19 := zJ_trans hJ0 hJ16 (zSub_cons (fun _ _ h h' hk => zIR_s (zIR_s (zIR_s (zIR_s (zIR_s (zIR_s (zIR_a (by omega) (by omega)))))))) zSub_nil)
        show ZW _ _ _ _ _ _ _ (23, [some (.ref 0), some (.int a0), some (.int a1), none], [], M15)
        refine w_ic dX8_slack_23 zi_m1 ?_
        refine w_en dX8_slack_24 rfl ?_
        exact ⟨_, _, rfl, (by have := zt_m1; omega), (by have := zt_m1; omega), hJ19, hb⟩
      · skip
        replace hb : zHd _ := hb.2 h14
        refine w_ilt_f dX8_slack_9 (t := 18) rfl (by omega) ?_
        refine w_lo dX8_slack_12 rfl rfl rfl rfl ?_
        refine w_bi dX8_slack_13 (c := 99) (by decide) ?_
        rcases zcut (99 : Int) a1.toInt with h20 | h20
        · skip
          replace hb : zHd _ := hb.1 h20
          refine w_cle_f dX8_slack_15 (t := 25) rfl (by have := zt_99; omega) ?_
          refine w_lo dX8_slack_18 rfl rfl rfl rfl ?_
          refine w_ic dX8_slack_19 zi_3 ?_
          refine w_iv dX8_slack_20 rfl rfl (As := [.int 3]) rfl rfl hJ0.1.1 zs_0 (Nat.le_of_ble_eq_true rfl) ?_
          refine ZV.imp (k_2050 3 (by have := zt_3; omega) (by have := zt_3; omega) hN hJ0.1) ?_
          rintro _ ⟨M21, rfl, hJ22, hq23⟩
          replace hb : zHd _ := hb  (zi M21) (zi_fr hJ22.2)
          have hJ25 := zJ_trans hJ0 hJ22 (zSub_cons (fun _ _ h h' hk => zIR_s (zIR_s (zIR_s (zIR_s (zIR_s (zIR_s (zIR_a (by omega) (by omega)))))))) zSub_nil)
          show ZW _ _ _ _ _ _ _ (23, [some (.ref 0), some (.int a0), some (.int a1), none], [], M21)
          refine w_ic dX8_slack_23 zi_m1 ?_
          refine w_en dX8_slack_24 rfl ?_
          exact ⟨_, _, rfl, (by have := zt_m1; omega), (by have := zt_m1; omega), hJ25, hb⟩
        · skip
          replace hb : zHd _ := hb.2 h20
          refine w_cle_t dX8_slack_15 (t := 25) rfl (by have := zt_99; omega) ?_
          refine w_lo dX8_slack_25 rfl rfl rfl rfl ?_
          refine w_iv dX8_slack_26 rfl rfl (As := []) rfl rfl hJ0.1.1 zs_0 (Nat.le_of_ble_eq_true rfl) ?_
          obtain ⟨P28, hp29, hb⟩ := hb
          replace hb : zHd _ := hb
          refine ZV.imp (u_2074 hN hJ0.1 hp29) ?_
          rintro _ ⟨M26, rfl, hJ27, hq30⟩
          replace hb : zHd _ := hb  (zi M26) (zi_fr hJ27.2) hq30
          have hJ32 := zJ_trans hJ0 hJ27 (zSub_cons (fun _ _ h h' hk => zIR_e (by omega) (by omega) hk) (zSub_cons (fun _ _ h h' hk => zIR_s (zIR_e (by omega) (by omega) hk)) (zSub_cons (fun _ _ h h' hk => zIR_s (zIR_s (zIR_e (by omega) (by omega) hk))) (zSub_cons (fun _ _ h h' hk => zIR_s (zIR_s (zIR_s (zIR_e (by omega) (by omega) hk)))) (zSub_cons (fun _ _ h h' hk => zIR_s (zIR_s (zIR_s (zIR_s (zIR_s (zIR_a (by omega) (by omega))))))) (zSub_cons (fun _ _ h h' hk => zIR_s (zIR_s (zIR_s (zIR_s (zIR_s (zIR_s (zIR_s (zIR_e (by omega) (by omega) hk)))))))) (zSub_cons (fun _ _ h h' hk => zIR_s (zIR_s (zIR_s (zIR_s (zIR_s (zIR_s (zIR_s (zIR_s (zIR_e (by omega) (by omega) hk))))))))) zSub_nil)))))))
          show ZW _ _ _ _ _ _ _ (29, [some (.ref 0), some (.int a0), some (.int a1), none], [], M26)
          refine w_lo dX8_slack_29 rfl rfl rfl rfl ?_
          refine w_gf dX8_slack_30 rfl hJ32.1.1 zs_0 (zr_0_4 hJ32.1) ?_
          refine w_gf dX8_slack_33 rfl hJ32.1.1 zs_49 (zr_49_13 hJ32.1) ?_
          refine w_lo dX8_slack_36 rfl rfl rfl rfl ?_
          refine w_iai dX8_slack_37 hJ32.1 zs_61 (by omega) (by omega) zu_61 ?_
          intro x36 f33 h34 h35
          replace hb : zHd _ := hb x36.toInt (ziEk f33 rfl) h34 h35
          refine w_lo (ml' := [some (.ref 0), some (.int a0), some (.int a1), some (.int x36)]) dX8_slack_38 rfl rfl rfl rfl ?_
          refine w_lo dX8_slack_39 rfl rfl rfl rfl ?_
          refine w_gf dX8_slack_40 rfl hJ32.1.1 zs_0 (zr_0_4 hJ32.1) ?_
          refine w_gf dX8_slack_43 rfl hJ32.1.1 zs_49 (zr_49_13 hJ32.1) ?_
          refine w_lo dX8_slack_46 rfl rfl rfl rfl ?_
          refine w_lo dX8_slack_47 rfl rfl rfl rfl ?_
          refine w_isi dX8_slack_48 hJ32 zs_61 (by omega) (by omega) zu_61 (by omega) (by omega) (zIR_s (zIR_s (zIR_s (zIR_s (zIR_a (by omega) (by omega)))))) ?_
          intro M37 hJ38 f39 hn40
          replace hb : zHd _ := hb (zi M37) (zi_zup hn40 f39 rfl rfl)
          refine w_lo dX8_slack_49 rfl rfl rfl rfl ?_
          refine w_eni dX8_slack_50 rfl rfl ?_
          exact ⟨_, _, rfl, (by omega), (by omega), hJ38, hb⟩
    · skip
      replace hb : zHd _ := hb.2 h13
      refine w_cge_t dX8_isKnot_14 (t := 21) rfl (by omega) ?_
      refine w_ic dX8_isKnot_21 zi_0 ?_
      refine w_en dX8_isKnot_22 rfl ?_
      show ZW _ _ _ _ _ _ _ (5, [some (.ref 0), some (.int a0), some (.int a1), none], [.int 0], M0)
      refine w_ieq_t dX8_slack_5 (t := 18) rfl (by have := zt_0; omega) ?_
      refine w_lo dX8_slack_18 rfl rfl rfl rfl ?_
      refine w_ic dX8_slack_19 zi_3 ?_
      refine w_iv dX8_slack_20 rfl rfl (As := [.int 3]) rfl rfl hJ0.1.1 zs_0 (Nat.le_of_ble_eq_true rfl) ?_
      refine ZV.imp (k_2050 3 (by have := zt_3; omega) (by have := zt_3; omega) hN hJ0.1) ?_
      rintro _ ⟨M42, rfl, hJ43, hq44⟩
      replace hb : zHd _ := hb  (zi M42) (zi_fr hJ43.2)
      have hJ46 := zJ_trans hJ0 hJ43 (zSub_cons (fun _ _ h h' hk => zIR_s (zIR_s (zIR_s (zIR_s (zIR_s (zIR_s (zIR_a (by omega) (by omega)))))))) zSub_nil)
      show ZW _ _ _ _ _ _ _ (23, [some (.ref 0), some (.int a0), some (.int a1), none], [], M42)
      refine w_ic dX8_slack_23 zi_m1 ?_
      refine w_en dX8_slack_24 rfl ?_
      exact ⟨_, _, rfl, (by have := zt_m1; omega), (by have := zt_m1; omega), hJ46, hb⟩
set_option maxRecDepth 100000 in
theorem u_2079 {X : List Int32} {d N : Nat} {M0 : zM} (a0 : Int32) (a1 : Int32) (hN : N ≤ 600) (hB0 : zB N M0) {Q : Int → zF → Prop} (hb : b_2079 (zi M0) a0.toInt a1.toInt Q) : ZV X (d + 5) 2079 [.ref 0, .int a0, .int a1] M0 (zRI N [(77, 78, 0), (79, 346, 0), (77, 78, 1), (79, 346, 1), (50, 51, 1000), (80, 359, 1000), (385, 386, 1000), (79, 346, 14), (0, 1, 15)] M0 (0) (1) (fun v M' => Q v.toInt (zi M'))) := by
  have hJ0 : zJ N [(77, 78, 0), (79, 346, 0), (77, 78, 1), (79, 346, 1), (50, 51, 1000), (80, 359, 1000), (385, 386, 1000), (79, 346, 14), (0, 1, 15)] M0 M0 := zJ_refl hB0
  refine ZV.of (ini := false) rfl (Nat.le_of_ble_eq_true rfl) (by decide +kernel) ?_
  unfold b_2079 at hb
  replace hb : zHd _ := hb
  show ZW _ _ _ _ _ _ _ (0, [some (.ref 0), some (.int a0), some (.int a1)], [], M0)
  refine w_lo dX8_swap_0 rfl rfl rfl rfl ?_
  refine w_lo dX8_swap_1 rfl rfl rfl rfl ?_
  refine w_iv dX8_swap_2 rfl rfl (As := [.int a0]) rfl rfl hJ0.1.1 zs_0 (Nat.le_of_ble_eq_true rfl) ?_
  refine ZV.of (ini := false) rfl (Nat.le_of_ble_eq_true rfl) (by decide +kernel) ?_
  show ZW _ _ _ _ _ _ _ (0, [some (.ref 0), some (.int a0)], [], M0)
  refine w_lo dX8_isPlace_0 rfl rfl rfl rfl ?_
  rcases zcut a0.toInt (0 : Int) with h1 | h1
  · skip
    replace hb : zHd _ := hb.1 h1
    refine w_ilt_t dX8_isPlace_1 (t := 19) rfl (by omega) ?_
    refine w_ic dX8_isPlace_19 zi_0 ?_
    refine w_en dX8_isPlace_20 rfl ?_
    show ZW _ _ _ _ _ _ _ (5, [some (.ref 0), some (.int a0), some (.int a1)], [.int 0], M0)
    refine w_ieq_t dX8_swap_5 (t := 21) rfl (by have := zt_0; omega) ?_
    refine w_lo dX8_swap_21 rfl rfl rfl rfl ?_
    refine w_ic dX8_swap_22 zi_3 ?_
    refine w_iv dX8_swap_23 rfl rfl (As := [.int 3]) rfl rfl hJ0.1.1 zs_0 (Nat.le_of_ble_eq_true rfl) ?_
    refine ZV.imp (k_2050 3 (by have := zt_3; omega) (by have := zt_3; omega) hN hJ0.1) ?_
    rintro _ ⟨M2, rfl, hJ3, hq4⟩
    replace hb : zHd _ := hb  (zi M2) (zi_fr hJ3.2)
    have hJ6 := zJ_trans hJ0 hJ3 (zSub_cons (fun _ _ h h' hk => zIR_s (zIR_s (zIR_s (zIR_s (zIR_s (zIR_s (zIR_a (by omega) (by omega)))))))) zSub_nil)
    show ZW _ _ _ _ _ _ _ (26, [some (.ref 0), some (.int a0), some (.int a1)], [], M2)
    refine w_ic dX8_swap_26 zi_0 ?_
    refine w_en dX8_swap_27 rfl ?_
    exact ⟨_, _, rfl, (by have := zt_0; omega), (by have := zt_0; omega), hJ6, hb⟩
  · skip
    replace hb : zHd _ := hb.2 h1
    refine w_ilt_f dX8_isPlace_1 (t := 19) rfl (by omega) ?_
    refine w_lo dX8_isPlace_4 rfl rfl rfl rfl ?_
    refine w_lo dX8_isPlace_5 rfl rfl rfl rfl ?_
    refine w_gf dX8_isPlace_6 rfl hJ0.1.1 zs_0 (zr_0_4 hJ0.1) ?_
    refine w_gfi dX8_isPlace_9 rfl hJ0.1 zs_49 (Nat.le_of_ble_eq_true rfl) zo_49_0 ?_
    intro x7 f8 h9 h10
    replace hb : zHd _ := hb x7.toInt (ziE f8) h9 h10
    rcases zcut a0.toInt x7.toInt with h11 | h11
    · skip
      replace hb : zHd _ := hb.1 h11
      refine w_cge_f dX8_isPlace_12 (t := 19) rfl (by omega) ?_
      refine w_ic dX8_isPlace_15 zi_1 ?_
      refine w_gt dX8_isPlace_16 (t := 20) rfl ?_
      refine w_en dX8_isPlace_20 rfl ?_
      show ZW _ _ _ _ _ _ _ (5, [some (.ref 0), some (.int a0), some (.int a1)], [.int 1], M0)
      refine w_ieq_f dX8_swap_5 (t := 21) rfl (by have := zt_1; omega) ?_
      refine w_lo dX8_swap_8 rfl rfl rfl rfl ?_
      refine w_lo dX8_swap_9 rfl rfl rfl rfl ?_
      refine w_iv dX8_swap_10 rfl rfl (As := [.int a1]) rfl rfl hJ0.1.1 zs_0 (Nat.le_of_ble_eq_true rfl) ?_
      refine ZV.of (ini := false) rfl (Nat.le_of_ble_eq_true rfl) (by decide +kernel) ?_
      show ZW _ _ _ _ _ _ _ (0, [some (.ref 0), some (.int a1)], [], M0)
      refine w_lo dX8_isPlace_0 rfl rfl rfl rfl ?_
      rcases zcut a1.toInt (0 : Int) with h12 | h12
      · skip
        replace hb : zHd _ := hb.1 h12
        refine w_ilt_t dX8_isPlace_1 (t := 19) rfl (by omega) ?_
        refine w_ic dX8_isPlace_19 zi_0 ?_
        refine w_en dX8_isPlace_20 rfl ?_
        show ZW _ _ _ _ _ _ _ (13, [some (.ref 0), some (.int a0), some (.int a1)], [.int 0], M0)
        refine w_ieq_t dX8_swap_13 (t := 21) rfl (by have := zt_0; omega) ?_
        refine w_lo dX8_swap_21 rfl rfl rfl rfl ?_
        refine w_ic dX8_swap_22 zi_3 ?_
        refine w_iv dX8_swap_23 rfl rfl (As := [.int 3]) rfl rfl hJ0.1.1 zs_0 (Nat.le_of_ble_eq_true rfl) ?_
        refine ZV.imp (k_2050 3 (by have := zt_3; omega) (by have := zt_3; omega) hN hJ0.1) ?_
        rintro _ ⟨M13, rfl, hJ14, hq15⟩
        replace hb : zHd _ := hb  (zi M13) (zi_fr hJ14.2)
        have hJ17 := zJ_trans hJ0 hJ14 (zSub_cons (fun _ _ h h' hk => zIR_s (zIR_s (zIR_s (zIR_s (zIR_s (zIR_s (zIR_a (by omega) (by omega)))))))) zSub_nil)
        show ZW _ _ _ _ _ _ _ (26, [some (.ref 0), some (.int a0), some (.int a1)], [], M13)
        refine w_ic dX8_swap_26 zi_0 ?_
        refine w_en dX8_swap_27 rfl ?_
        exact ⟨_, _, rfl, (by have := zt_0; omega), (by have := zt_0; omega), hJ17, hb⟩
      · skip
        replace hb : zHd _ := hb.2 h12
        refine w_ilt_f dX8_isPlace_1 (t := 19) rfl (by omega) ?_
        refine w_lo dX8_isPlace_4 rfl rfl rfl rfl ?_
        refine w_lo dX8_isPlace_5 rfl rfl rfl rfl ?_
        refine w_gf dX8_isPlace_6 rfl hJ0.1.1 zs_0 (zr_0_4 hJ0.1) ?_
        refine w_gf dX8_isPlace_9 rfl hJ0.1.1 zs_49 f8 ?_
        rcases zcut a1.toInt x7.toInt with h18 | h18
        · skip
          replace hb : zHd _ := hb.1 h18
          refine w_cge_f dX8_isPlace_12 (t := 19) rfl (by omega) ?_
          refine w_ic dX8_isPlace_15 zi_1 ?_
          refine w_gt dX8_isPlace_16 (t := 20) rfl ?_
          refine w_en dX8_isPlace_20 rfl ?_
          show ZW _ _ _ _ _ _ _ (13, [some (.ref 0), some (.int a0), some (.int a1)], [.int 1], M0)
          refine w_ieq_f dX8_swap_13 (t := 21) rfl (by have := zt_1; omega) ?_
          refine w_lo dX8_swap_16 rfl rfl rfl rfl ?_
          refine w_lo dX8_swap_17 rfl rfl rfl rfl ?_
          rcases Int.decEq a0.toInt a1.toInt with h19 | h19
          · skip
            replace hb : zHd _ := hb.1 h19
            refine w_cne_t dX8_swap_18 (t := 28) rfl (by omega) ?_
            refine w_lo dX8_swap_28 rfl rfl rfl rfl ?_
            refine w_iv dX8_swap_29 rfl rfl (As := []) rfl rfl hJ0.1.1 zs_0 (Nat.le_of_ble_eq_true rfl) ?_
            obtain ⟨P22, hp23, hb⟩ := hb
            replace hb : zHd _ := hb
            refine ZV.imp (u_2074 hN hJ0.1 hp23) ?_
            rintro _ ⟨M20, rfl, hJ21, hq24⟩
            replace hb : zHd _ := hb  (zi M20) (zi_fr hJ21.2) hq24
            have hJ26 := zJ_trans hJ0 hJ21 (zSub_cons (fun _ _ h h' hk => zIR_e (by omega) (by omega) hk) (zSub_cons (fun _ _ h h' hk => zIR_s (zIR_e (by omega) (by omega) hk)) (zSub_cons (fun _ _ h h' hk => zIR_s (zIR_s (zIR_e (by omega) (by omega) hk))) (zSub_cons (fun _ _ h h' hk => zIR_s (zIR_s (zIR_s (zIR_e (by omega) (by omega) hk)))) (zSub_cons (fun _ _ h h' hk => zIR_s (zIR_s (zIR_s (zIR_s (zIR_s (zIR_a (by omega) (by omega))))))) (zSub_cons (fun _ _ h h' hk => zIR_s (zIR_s (zIR_s (zIR_s (zIR_s (zIR_s (zIR_s (zIR_e (by omega) (by omega) hk)))))))) (zSub_cons (fun _ _ h h' hk => zIR_s (zIR_s (zIR_s (zIR_s (zIR_s (zIR_s (zIR_s (zIR_s (zIR_e (by omega) (by omega) hk))))))))) zSub_nil)))))))
            show ZW _ _ _ _ _ _ _ (32, [some (.ref 0), some (.int a0), some (.int a1)], [], M20)
            refine w_lo dX8_swap_32 rfl rfl rfl rfl ?_
            refine w_gf dX8_swap_33 rfl hJ26.1.1 zs_0 (zr_0_4 hJ26.1) ?_
            refine w_lo dX8_swap_36 rfl rfl rfl rfl ?_
            refine w_lo dX8_swap_37 rfl rfl rfl rfl ?_
            refine w_iv dX8_swap_38 rfl rfl (As := [.int a0, .int a1]) rfl rfl hJ26.1.1 zs_49 (Nat.le_of_ble_eq_true rfl) ?_
            refine ZV.imp (k_1547 49 hb_6_49 a0 (by omega) (by omega) a1 (by omega) (by omega) hN hJ26.1) ?_
            rintro _ ⟨M27, rfl, hJ28, hq29⟩
            replace hb : zHd _ := hb  (zi M27) (zi_fr hJ28.2)
            have hJ31 := zJ_trans hJ26 hJ28 (zSub_cons (fun _ _ h h' hk => zIR_s (zIR_s (zIR_s (zIR_s (zIR_a (by omega) (by omega)))))) zSub_nil)
            show ZW _ _ _ _ _ _ _ (41, [some (.ref 0), some (.int a0), some (.int a1)], [], M27)
            refine w_ic dX8_swap_41 zi_1 ?_
            refine w_en dX8_swap_42 rfl ?_
            exact ⟨_, _, rfl, (by have := zt_1; omega), (by have := zt_1; omega), hJ31, hb⟩
          · skip
            replace hb : zHd _ := hb.2 h19
            refine w_cne_f dX8_swap_18 (t := 28) rfl (by omega) ?_
            refine w_lo dX8_swap_21 rfl rfl rfl rfl ?_
            refine w_ic dX8_swap_22 zi_3 ?_
            refine w_iv dX8_swap_23 rfl rfl (As := [.int 3]) rfl rfl hJ0.1.1 zs_0 (Nat.le_of_ble_eq_true rfl) ?_
            refine ZV.imp (k_2050 3 (by have := zt_3; omega) (by have := zt_3; omega) hN hJ0.1) ?_
            rintro _ ⟨M32, rfl, hJ33, hq34⟩
            replace hb : zHd _ := hb  (zi M32) (zi_fr hJ33.2)
            have hJ36 := zJ_trans hJ0 hJ33 (zSub_cons (fun _ _ h h' hk => zIR_s (zIR_s (zIR_s (zIR_s (zIR_s (zIR_s (zIR_a (by omega) (by omega)))))))) zSub_nil)
            show ZW _ _ _ _ _ _ _ (26, [some (.ref 0), some (.int a0), some (.int a1)], [], M32)
            refine w_ic dX8_swap_26 zi_0 ?_
            refine w_en dX8_swap_27 rfl ?_
            exact ⟨_, _, rfl, (by have := zt_0; omega), (by have := zt_0; omega), hJ36, hb⟩
        · skip
          replace hb : zHd _ := hb.2 h18
          refine w_cge_t dX8_isPlace_12 (t := 19) rfl (by omega) ?_
          refine w_ic dX8_isPlace_19 zi_0 ?_
          refine w_en dX8_isPlace_20 rfl ?_
          show ZW _ _ _ _ _ _ _ (13, [some (.ref 0), some (.int a0), some (.int a1)], [.int 0], M0)
          refine w_ieq_t dX8_swap_13 (t := 21) rfl (by have := zt_0; omega) ?_
          refine w_lo dX8_swap_21 rfl rfl rfl rfl ?_
          refine w_ic dX8_swap_22 zi_3 ?_
          refine w_iv dX8_swap_23 rfl rfl (As := [.int 3]) rfl rfl hJ0.1.1 zs_0 (Nat.le_of_ble_eq_true rfl) ?_
          refine ZV.imp (k_2050 3 (by have := zt_3; omega) (by have := zt_3; omega) hN hJ0.1) ?_
          rintro _ ⟨M37, rfl, hJ38, hq39⟩
          replace hb : zHd _ := hb  (zi M37) (zi_fr hJ38.2)
          have hJ41 := zJ_trans hJ0 hJ38 (zSub_cons (fun _ _ h h' hk => zIR_s (zIR_s (zIR_s (zIR_s (zIR_s (zIR_s (zIR_a (by omega) (by omega)))))))) zSub_nil)
          show ZW _ _ _ _ _ _ _ (26, [some (.ref 0), some (.int a0), some (.int a1)], [], M37)
          refine w_ic dX8_swap_26 zi_0 ?_
          refine w_en dX8_swap_27 rfl ?_
          exact ⟨_, _, rfl, (by have := zt_0; omega), (by have := zt_0; omega), hJ41, hb⟩
    · skip
      replace hb : zHd _ := hb.2 h11
      refine w_cge_t dX8_isPlace_12 (t := 19) rfl (by omega) ?_
      refine w_ic dX8_isPlace_19 zi_0 ?_
      refine w_en dX8_isPlace_20 rfl ?_
      show ZW _ _ _ _ _ _ _ (5, [some (.ref 0), some (.int a0), some (.int a1)], [.int 0], M0)
      refine w_ieq_t dX8_swap_5 (t := 21) rfl (by have := zt_0; omega) ?_
      refine w_lo dX8_swap_21 rfl rfl rfl rfl ?_
      refine w_ic dX8_swap_22 zi_3 ?_
      refine w_iv dX8_swap_23 rfl rfl (As := [.int 3]) rfl rfl hJ0.1.1 zs_0 (Nat.le_of_ble_eq_true rfl) ?_
      refine ZV.imp (k_2050 3 (by have := zt_3; omega) (by have := zt_3; omega) hN hJ0.1) ?_
      rintro _ ⟨M42, rfl, hJ43, hq44⟩
      replace hb : zHd _ := hb  (zi M42) (zi_fr hJ43.2)
      have hJ46 := zJ_trans hJ0 hJ43 (zSub_cons (fun _ _ h h' hk => zIR_s (zIR_s (zIR_s (zIR_s (zIR_s (zIR_s (zIR_a (by omega) (by omega)))))))) zSub_nil)
      show ZW _ _ _ _ _ _ _ (26, [some (.ref 0), some (.int a0), some (.int a1)], [], M42)
      refine w_ic dX8_swap_26 zi_0 ?_
      refine w_en dX8_swap_27 rfl ?_
      exact ⟨_, _, rfl, (by have := zt_0; omega), (by have := zt_0; omega), hJ46, hb⟩
set_option maxRecDepth 100000 in
theorem u_2080 {X : List Int32} {d N : Nat} {M0 : zM}  (hN : N ≤ 600) (hB0 : zB N M0) {Q : Int → zF → Prop} (hb : b_2080 (zi M0) Q) : ZV X (d + 4) 2080 [.ref 0] M0 (zRI N [(49, 50, 0), (77, 78, 0), (49, 50, 1), (77, 78, 1), (50, 63, 1000), (385, 386, 1000), (49, 50, 14), (0, 1, 15)] M0 (0) (1) (fun v M' => Q v.toInt (zi M'))) := by
  have hJ0 : zJ N [(49, 50, 0), (77, 78, 0), (49, 50, 1), (77, 78, 1), (50, 63, 1000), (385, 386, 1000), (49, 50, 14), (0, 1, 15)] M0 M0 := zJ_refl hB0
  refine ZV.of (ini := false) rfl (Nat.le_of_ble_eq_true rfl) (by decide +kernel) ?_
  unfold b_2080 at hb
  replace hb : zHd _ := hb
  show ZW _ _ _ _ _ _ _ (0, [some (.ref 0)], [], M0)
  refine w_lo dX8_undo_0 rfl rfl rfl rfl ?_
  refine w_gf dX8_undo_1 rfl hJ0.1.1 zs_0 (zr_0_6 hJ0.1) ?_
  refine w_lo dX8_undo_4 rfl rfl rfl rfl ?_
  refine w_gf dX8_undo_5 rfl hJ0.1.1 zs_0 (zr_0_4 hJ0.1) ?_
  refine w_iv dX8_undo_8 rfl rfl (As := [.ref 49]) rfl rfl hJ0.1.1 zs_77 (Nat.le_of_ble_eq_true rfl) ?_
  obtain ⟨P3, hp4, hb⟩ := hb
  replace hb : zHd _ := hb
  refine ZV.imp (u_3 49 hb_6_49 hN hJ0.1 hp4) ?_
  rintro _ ⟨x6, M1, rfl, h7, h8, hJ2, hq5⟩
  replace hb : zHd _ := hb x6.toInt h7 h8 (zi M1) (zi_fr hJ2.2) hq5
  have hJ10 := zJ_trans hJ0 hJ2 (zSub_cons (fun _ _ h h' hk => zIR_e (by omega) (by omega) hk) (zSub_cons (fun _ _ h h' hk => zIR_s (zIR_s (zIR_e (by omega) (by omega) hk))) (zSub_cons (fun _ _ h h' hk => zIR_s (zIR_s (zIR_s (zIR_s (zIR_a (by omega) (by omega)))))) (zSub_cons (fun _ _ h h' hk => zIR_s (zIR_s (zIR_s (zIR_s (zIR_s (zIR_s (zIR_e (by omega) (by omega) hk))))))) (zSub_cons (fun _ _ h h' hk => zIR_s (zIR_e (by omega) (by omega) hk)) (zSub_cons (fun _ _ h h' hk => zIR_s (zIR_s (zIR_s (zIR_e (by omega) (by omega) hk)))) zSub_nil))))))
  show ZW _ _ _ _ _ _ _ (11, [some (.ref 0)], [.int x6], M1)
  rcases Int.decEq x6.toInt (0 : Int) with h11 | h11
  · skip
    replace hb : zHd _ := hb.1 h11
    refine w_ine_t dX8_undo_11 (t := 21) rfl (by omega) ?_
    refine w_lo dX8_undo_21 rfl rfl rfl rfl ?_
    refine w_pu dX8_undo_22 rfl rfl ?_
    refine w_gfi dX8_undo_23 rfl hJ10.1 zs_0 (Nat.le_of_ble_eq_true rfl) zo_0_15 ?_
    intro x12 f13 h14 h15
    replace hb : zHd _ := hb x12.toInt (ziE f13)
    refine w_ic dX8_undo_26 zi_1 ?_
    refine w_puI dX8_undo_27 rfl rfl ?_
    intro x16
    replace hb : zHd _ := hb x16.toInt 
    refine w_pfi dX8_undo_28 rfl hJ10 zs_0 (Nat.le_of_ble_eq_true rfl) zo_0_15 (zbot _) (ztop _) (zIR_s (zIR_s (zIR_s (zIR_s (zIR_s (zIR_s (zIR_s (zIR_k (by omega) (by omega))))))))) rfl rfl rfl ?_
    intro M17 hJ18 f19 hn20
    replace hb : zHd _ := hb (zi M17) (zi_zup hn20 f19 rfl rfl)
    refine w_ic dX8_undo_31 zi_1 ?_
    refine w_en dX8_undo_32 rfl ?_
    exact ⟨_, _, rfl, (by have := zt_1; omega), (by have := zt_1; omega), hJ18, hb⟩
  · skip
    replace hb : zHd _ := hb.2 h11
    refine w_ine_f dX8_undo_11 (t := 21) rfl (by omega) ?_
    refine w_lo dX8_undo_14 rfl rfl rfl rfl ?_
    refine w_ic dX8_undo_15 zi_4 ?_
    refine w_iv dX8_undo_16 rfl rfl (As := [.int 4]) rfl rfl hJ10.1.1 zs_0 (Nat.le_of_ble_eq_true rfl) ?_
    refine ZV.imp (k_2050 4 (by have := zt_4; omega) (by have := zt_4; omega) hN hJ10.1) ?_
    rintro _ ⟨M22, rfl, hJ23, hq24⟩
    replace hb : zHd _ := hb  (zi M22) (zi_fr hJ23.2)
    have hJ26 := zJ_trans hJ10 hJ23 (zSub_cons (fun _ _ h h' hk => zIR_s (zIR_s (zIR_s (zIR_s (zIR_s (zIR_a (by omega) (by omega))))))) zSub_nil)
    show ZW _ _ _ _ _ _ _ (19, [some (.ref 0)], [], M22)
    refine w_ic dX8_undo_19 zi_0 ?_
    refine w_en dX8_undo_20 rfl ?_
    exact ⟨_, _, rfl, (by have := zt_0; omega), (by have := zt_0; omega), hJ26, hb⟩
set_option maxRecDepth 100000 in
theorem u_2088 {X : List Int32} {d N : Nat} {M0 : zM}  (hN : N ≤ 600) (hB0 : zB N M0) {Q : Int → zF → Prop} (hb : b_2088 (zi M0) Q) : ZV X (d + 8) 2088 [.ref 0] M0 (zRI N [(77, 78, 0), (79, 346, 0), (367, 368, 0), (77, 78, 1), (79, 346, 1), (367, 368, 1), (381, 382, 1), (26, 28, 1000), (47, 49, 1000), (50, 51, 1000), (80, 359, 1000), (366, 367, 1000), (368, 380, 1000), (382, 383, 1000), (385, 386, 1000), (79, 346, 14), (367, 368, 14), (0, 1, 15), (364, 365, 2), (364, 365, 3), (364, 365, 8)] M0 (-2147483648) (2147483647) (fun v M' => Q v.toInt (zi M'))) := by
  have hJ0 : zJ N [(77, 78, 0), (79, 346, 0), (367, 368, 0), (77, 78, 1), (79, 346, 1), (367, 368, 1), (381, 382, 1), (26, 28, 1000), (47, 49, 1000), (50, 51, 1000), (80, 359, 1000), (366, 367, 1000), (368, 380, 1000), (382, 383, 1000), (385, 386, 1000), (79, 346, 14), (367, 368, 14), (0, 1, 15), (364, 365, 2), (364, 365, 3), (364, 365, 8)] M0 M0 := zJ_refl hB0
  refine ZV.of (ini := false) rfl (Nat.le_of_ble_eq_true rfl) (by decide +kernel) ?_
  unfold b_2088 at hb
  replace hb : zHd _ := hb
  show ZW _ _ _ _ _ _ _ (0, [some (.ref 0)], [], M0)
  refine w_lo dX8_lay_0 rfl rfl rfl rfl ?_
  refine w_gf dX8_lay_1 rfl hJ0.1.1 zs_0 (zr_0_4 hJ0.1) ?_
  refine w_gfi dX8_lay_4 rfl hJ0.1 zs_49 (Nat.le_of_ble_eq_true rfl) zo_49_0 ?_
  intro x1 f2 h3 h4
  replace hb : zHd _ := hb x1.toInt (ziE f2) h3 h4
  refine w_ic dX8_lay_7 zi_1 ?_
  rcases zcut x1.toInt (1 : Int) with h5 | h5
  · skip
    replace hb : zHd _ := hb.1 h5
    refine w_cge_f dX8_lay_8 (t := 18) rfl (by have := zt_1; omega) ?_
    refine w_lo dX8_lay_11 rfl rfl rfl rfl ?_
    refine w_ic dX8_lay_12 zi_3 ?_
    refine w_iv dX8_lay_13 rfl rfl (As := [.int 3]) rfl rfl hJ0.1.1 zs_0 (Nat.le_of_ble_eq_true rfl) ?_
    refine ZV.imp (k_2050 3 (by have := zt_3; omega) (by have := zt_3; omega) hN hJ0.1) ?_
    rintro _ ⟨M6, rfl, hJ7, hq8⟩
    replace hb : zHd _ := hb  (zi M6) (zi_fr hJ7.2)
    have hJ10 := zJ_trans hJ0 hJ7 (zSub_cons (fun _ _ h h' hk => zIR_s (zIR_s (zIR_s (zIR_s (zIR_s (zIR_s (zIR_s (zIR_s (zIR_s (zIR_s (zIR_s (zIR_s (zIR_s (zIR_s (zIR_a (by omega) (by omega)))))))))))))))) zSub_nil)
    show ZW _ _ _ _ _ _ _ (16, [some (.ref 0)], [], M6)
    refine w_ic dX8_lay_16 zi_m1 ?_
    refine w_en dX8_lay_17 rfl ?_
    exact ⟨_, _, rfl, (zbot _), (ztop _), hJ10, hb⟩
  · skip
    replace hb : zHd _ := hb.2 h5
    refine w_cge_t dX8_lay_8 (t := 18) rfl (by have := zt_1; omega) ?_
    refine w_lo dX8_lay_18 rfl rfl rfl rfl ?_
    refine w_gf dX8_lay_19 rfl hJ0.1.1 zs_0 (zr_0_9 hJ0.1) ?_
    refine w_lo dX8_lay_22 rfl rfl rfl rfl ?_
    obtain ⟨b11, f12, h13⟩ := zd_0_3 hJ0.1
    have h14 := zDm_b h13
    refine w_gf dX8_lay_23 rfl hJ0.1.1 zs_0 f12 ?_
    replace hb : zHd _ := hb b11 (ziR f12) (zDm_or h13)
    refine w_lo dX8_lay_26 rfl rfl rfl rfl ?_
    refine w_gf dX8_lay_27 rfl hJ0.1.1 zs_0 (zr_0_4 hJ0.1) ?_
    refine w_lo dX8_lay_30 rfl rfl rfl rfl ?_
    refine w_gfi dX8_lay_31 rfl hJ0.1 zs_0 (Nat.le_of_ble_eq_true rfl) zo_0_15 ?_
    intro x15 f16 h17 h18
    replace hb : zHd _ := hb x15.toInt (ziE f16)
    refine w_iv dX8_lay_34 rfl rfl (As := [.ref b11, .ref 49, .int x15]) rfl rfl hJ0.1.1 zs_364 (Nat.le_of_ble_eq_true rfl) ?_
    refine ZV.imp (k_1030 b11 h13 49 hb_6_49 x15 hN hJ0.1) ?_
    rintro _ ⟨M19, rfl, hJ20, hq21⟩
    replace hb : zHd _ := hb  (zi M19) (zi_fr hJ20.2)
    have hJ23 := zJ_trans hJ0 hJ20 (zSub_cons (fun _ _ h h' hk => ((zDm_or h13).elim (fun e => zIR_s (zIR_s (zIR_s (zIR_s (zIR_s (zIR_s (zIR_s (zIR_a (by omega) (by omega))))))))) (fun e => zIR_s (zIR_s (zIR_s (zIR_s (zIR_s (zIR_s (zIR_s (zIR_s (zIR_a (by omega) (by omega)))))))))))) (zSub_cons (fun _ _ h h' hk => zIR_s (zIR_s (zIR_e (by omega) (by omega) hk))) (zSub_cons (fun _ _ h h' hk => zIR_s (zIR_s (zIR_s (zIR_s (zIR_s (zIR_e (by omega) (by omega) hk)))))) (zSub_cons (fun _ _ h h' hk => zIR_s (zIR_s (zIR_s (zIR_s (zIR_s (zIR_s (zIR_e (by omega) (by omega) hk))))))) (zSub_cons (fun _ _ h h' hk => zIR_s (zIR_s (zIR_s (zIR_s (zIR_s (zIR_s (zIR_s (zIR_s (zIR_s (zIR_s (zIR_s (zIR_a (by omega) (by omega))))))))))))) (zSub_cons (fun _ _ h h' hk => zIR_s (zIR_s (zIR_s (zIR_s (zIR_s (zIR_s (zIR_s (zIR_s (zIR_s (zIR_s (zIR_s (zIR_s (zIR_a (by omega) (by omega)))))))))))))) (zSub_cons (fun _ _ h h' hk => zIR_s (zIR_s (zIR_s (zIR_s (zIR_s (zIR_s (zIR_s (zIR_s (zIR_s (zIR_s (zIR_s (zIR_s (zIR_s (zIR_a (by omega) (by omega))))))))))))))) (zSub_cons (fun _ _ h h' hk => zIR_s (zIR_s (zIR_s (zIR_s (zIR_s (zIR_s (zIR_s (zIR_s (zIR_s (zIR_s (zIR_s (zIR_s (zIR_s (zIR_s (zIR_s (zIR_s (zIR_e (by omega) (by omega) hk))))))))))))))))) (zSub_cons (fun _ _ h h' hk => zIR_s (zIR_s (zIR_s (zIR_s (zIR_s (zIR_s (zIR_s (zIR_s (zIR_s (zIR_s (zIR_s (zIR_s (zIR_s (zIR_s (zIR_s (zIR_s (zIR_s (zIR_s (zIR_e (by omega) (by omega) hk))))))))))))))))))) (zSub_cons (fun _ _ h h' hk => zIR_s (zIR_s (zIR_s (zIR_s (zIR_s (zIR_s (zIR_s (zIR_s (zIR_s (zIR_s (zIR_s (zIR_s (zIR_s (zIR_s (zIR_s (zIR_s (zIR_s (zIR_s (zIR_s (zIR_e (by omega) (by omega) hk)))))))))))))))))))) (zSub_cons (fun _ _ h h' hk => zIR_s (zIR_s (zIR_s (zIR_s (zIR_s (zIR_s (zIR_s (zIR_s (zIR_s (zIR_s (zIR_s (zIR_s (zIR_s (zIR_s (zIR_s (zIR_s (zIR_s (zIR_s (zIR_s (zIR_s (zIR_e (by omega) (by omega) hk))))))))))))))))))))) zSub_nil)))))))))))
    show ZW _ _ _ _ _ _ _ (37, [some (.ref 0)], [], M19)
    refine w_lo dX8_lay_37 rfl rfl rfl rfl ?_
    refine w_gf dX8_lay_38 rfl hJ23.1.1 zs_0 (zr_0_9 hJ23.1) ?_
    refine w_gfi dX8_lay_41 rfl hJ23.1 zs_364 (Nat.le_of_ble_eq_true rfl) zo_364_3 ?_
    intro x24 f25 h26 h27
    replace hb : zHd _ := hb x24.toInt (ziE f25)
    rcases zcut (0 : Int) x24.toInt with h28 | h28
    · skip
      replace hb : zHd _ := hb.1 h28
      refine w_ile_f dX8_lay_44 (t := 72) rfl (by omega) ?_
      refine w_lo dX8_lay_47 rfl rfl rfl rfl ?_
      refine w_iv dX8_lay_48 rfl rfl (As := []) rfl rfl hJ23.1.1 zs_0 (Nat.le_of_ble_eq_true rfl) ?_
      obtain ⟨P31, hp32, hb⟩ := hb
      replace hb : zHd _ := hb
      refine ZV.imp (u_2074 hN hJ23.1 hp32) ?_
      rintro _ ⟨M29, rfl, hJ30, hq33⟩
      replace hb : zHd _ := hb  (zi M29) (zi_fr hJ30.2) hq33
      have hJ35 := zJ_trans hJ23 hJ30 (zSub_cons (fun _ _ h h' hk => zIR_e (by omega) (by omega) hk) (zSub_cons (fun _ _ h h' hk => zIR_s (zIR_e (by omega) (by omega) hk)) (zSub_cons (fun _ _ h h' hk => zIR_s (zIR_s (zIR_s (zIR_e (by omega) (by omega) hk)))) (zSub_cons (fun _ _ h h' hk => zIR_s (zIR_s (zIR_s (zIR_s (zIR_e (by omega) (by omega) hk))))) (zSub_cons (fun _ _ h h' hk => zIR_s (zIR_s (zIR_s (zIR_s (zIR_s (zIR_s (zIR_s (zIR_s (zIR_s (zIR_s (zIR_a (by omega) (by omega)))))))))))) (zSub_cons (fun _ _ h h' hk => zIR_s (zIR_s (zIR_s (zIR_s (zIR_s (zIR_s (zIR_s (zIR_s (zIR_s (zIR_s (zIR_s (zIR_s (zIR_s (zIR_s (zIR_s (zIR_e (by omega) (by omega) hk)))))))))))))))) (zSub_cons (fun _ _ h h' hk => zIR_s (zIR_s (zIR_s (zIR_s (zIR_s (zIR_s (zIR_s (zIR_s (zIR_s (zIR_s (zIR_s (zIR_s (zIR_s (zIR_s (zIR_s (zIR_s (zIR_s (zIR_e (by omega) (by omega) hk)))))))))))))))))) zSub_nil)))))))
      show ZW _ _ _ _ _ _ _ (51, [some (.ref 0)], [], M29)
      refine w_lo dX8_lay_51 rfl rfl rfl rfl ?_
      refine w_gf dX8_lay_52 rfl hJ35.1.1 zs_0 (zr_0_9 hJ35.1) ?_
      refine w_gf dX8_lay_55 rfl hJ35.1.1 zs_364 (zr_364_4 hJ35.1) ?_
      refine w_ic dX8_lay_58 zi_0 ?_
      refine w_lo dX8_lay_59 rfl rfl rfl rfl ?_
      refine w_gf dX8_lay_60 rfl hJ35.1.1 zs_0 (zr_0_4 hJ35.1) ?_
      refine w_gf dX8_lay_63 rfl hJ35.1.1 zs_49 (zr_49_2 hJ35.1) ?_
      refine w_ic dX8_lay_66 zi_0 ?_
      refine w_bi dX8_lay_67 (c := 12) (by decide) ?_
      refine w_cpG (kd := 10) (Or.inl rfl) dX8_lay_69 rfl (Nat.le_of_ble_eq_true rfl) hJ35 zs_366 zs_50 zt_12 (Nat.le_of_ble_eq_true rfl) (Nat.le_of_ble_eq_true rfl) zu_366 zu_50 (by decide) (by decide) (fun _ => (zIR_s (zIR_s (zIR_s (zIR_s (zIR_s (zIR_s (zIR_s (zIR_s (zIR_s (zIR_a (by omega) (by omega)))))))))))) ?_
      intro M36 hJ37 hn38
      replace hb : zHd _ := hb (zi M36) (fun a k h => zi_vl (hn38 a k (Or.inl (Ne.symm h))))
      show ZW _ _ _ _ _ _ _ (72, [some (.ref 0)], [], M36)
      refine w_lo dX8_lay_72 rfl rfl rfl rfl ?_
      refine w_gf dX8_lay_73 rfl hJ37.1.1 zs_0 (zr_0_9 hJ37.1) ?_
      have f40 := (hn38 (364) 3 (Or.inl (by omega))).trans ((hJ30.2 (364) 3 (zNI_k (by decide) (by decide) (zNI_k (by decide) (by decide) (zNI_k (by decide) (by decide) (zNI_k (by decide) (by decide) (zNI (by omega) (zNI_k (by decide) (by decide) (zNI_k (by decide) (by decide) zNI_nil)))))))).trans (f25))
      refine w_gf dX8_lay_76 rfl hJ37.1.1 zs_364 f40 ?_
      refine w_eni dX8_lay_79 rfl rfl ?_
      exact ⟨_, _, rfl, (zbot _), (ztop _), hJ37, hb⟩
    · skip
      replace hb : zHd _ := hb.2 h28
      refine w_ile_t dX8_lay_44 (t := 72) rfl (by omega) ?_
      refine w_lo dX8_lay_72 rfl rfl rfl rfl ?_
      refine w_gf dX8_lay_73 rfl hJ23.1.1 zs_0 (zr_0_9 hJ23.1) ?_
      refine w_gf dX8_lay_76 rfl hJ23.1.1 zs_364 f25 ?_
      refine w_eni dX8_lay_79 rfl rfl ?_
      exact ⟨_, _, rfl, (zbot _), (ztop _), hJ23, hb⟩
set_option maxRecDepth 100000 in
theorem u_2092 {X : List Int32} {d N : Nat} {M0 : zM} (a0 : Int32) (ha00 : (0 : Int) ≤ a0.toInt) (ha01 : a0.toInt ≤ 108) (hN : N ≤ 600) (hB0 : zB N M0) {Q : Int → zF → Prop} (hb : b_2092 (zi M0) a0.toInt Q) : ZV X (d + 1) 2092 [.ref 0, .int a0] M0 (zRI N [] M0 (0) (255) (fun v M' => Q v.toInt (zi M'))) := by
  have hJ0 : zJ N [] M0 M0 := zJ_refl hB0
  refine ZV.of (ini := false) rfl (Nat.le_of_ble_eq_true rfl) (by decide +kernel) ?_
  unfold b_2092 at hb
  replace hb : zHd _ := hb
  show ZW _ _ _ _ _ _ _ (0, [some (.ref 0), some (.int a0)], [], M0)
  refine w_lo dX8_onTape_0 rfl rfl rfl rfl ?_
  refine w_ilt_f dX8_onTape_1 (t := 11) rfl (by omega) ?_
  refine w_lo dX8_onTape_4 rfl rfl rfl rfl ?_
  refine w_si dX8_onTape_5 (c := 1600) (by decide) ?_
  refine w_clt_t dX8_onTape_8 (t := 15) rfl (by have := zt_1600; omega) ?_
  refine w_lo dX8_onTape_15 rfl rfl rfl rfl ?_
  refine w_gf dX8_onTape_16 rfl hJ0.1.1 zs_0 (zr_0_0 hJ0.1) ?_
  refine w_lo dX8_onTape_19 rfl rfl rfl rfl ?_
  refine w_iai dX8_onTape_20 hJ0.1 zs_1 (by omega) (by omega) zu_1 ?_
  intro x4 f1 h2 h3
  replace hb : zHd _ := hb x4.toInt (ziEk f1 rfl) h2 h3
  refine w_eni dX8_onTape_21 rfl rfl ?_
  exact ⟨_, _, rfl, (by omega), (by omega), hJ0, hb⟩
set_option maxRecDepth 100000 in
theorem u_2091 {X : List Int32} {d N : Nat} {M0 : zM} (a0 : Int32) (ha00 : (0 : Int) ≤ a0.toInt) (ha01 : a0.toInt ≤ 88) (hN : N ≤ 600) (hB0 : zB N M0) {Q : Int → zF → Prop} (hb : b_2091 (zi M0) a0.toInt Q) : ZV X (d + 2) 2091 [.ref 0, .int a0] M0 (zRI N [] M0 (0) (65535) (fun v M' => Q v.toInt (zi M'))) := by
  have hJ0 : zJ N [] M0 M0 := zJ_refl hB0
  refine ZV.of (ini := false) rfl (Nat.le_of_ble_eq_true rfl) (by decide +kernel) ?_
  unfold b_2091 at hb
  replace hb : zHd _ := hb
  show ZW _ _ _ _ _ _ _ (0, [some (.ref 0), some (.int a0)], [], M0)
  refine w_si dX8_pairOnTape_0 (c := 256) (by decide) ?_
  refine w_lo dX8_pairOnTape_3 rfl rfl rfl rfl ?_
  refine w_lo dX8_pairOnTape_4 rfl rfl rfl rfl ?_
  refine w_iv dX8_pairOnTape_5 rfl rfl (As := [.int a0]) rfl rfl hJ0.1.1 zs_0 (Nat.le_of_ble_eq_true rfl) ?_
  obtain ⟨P3, hp4, hb⟩ := hb
  replace hb : zHd _ := hb
  refine ZV.imp (u_2092 a0 (by omega) (by omega) hN hJ0.1 hp4) ?_
  rintro _ ⟨x6, M1, rfl, h7, h8, hJ2, hq5⟩
  replace hb : zHd _ := hb x6.toInt h7 h8 (zi M1) (zi_fr hJ2.2) hq5
  have hJ10 := zJ_trans hJ0 hJ2 zSub_nil
  show ZW _ _ _ _ _ _ _ (8, [some (.ref 0), some (.int a0)], [.int x6, .int 256], M1)
  refine w_mulc dX8_pairOnTape_8 zt_256 (by have := zt_256; omega) ?_
  intro x11 h12
  have := zt_256
  replace hb : zHd _ := hb x11.toInt (by have := zt_256; omega)
  refine w_lo dX8_pairOnTape_9 rfl rfl rfl rfl ?_
  refine w_lo dX8_pairOnTape_10 rfl rfl rfl rfl ?_
  refine w_ic dX8_pairOnTape_11 zi_1 ?_
  refine w_add dX8_pairOnTape_12 (by have := zt_1; omega) ?_
  intro x13 h14
  have := zt_1
  replace hb : zHd _ := hb x13.toInt (by have := zt_1; omega)
  refine w_iv dX8_pairOnTape_13 rfl rfl (As := [.int x13]) rfl rfl hJ10.1.1 zs_0 (Nat.le_of_ble_eq_true rfl) ?_
  obtain ⟨P17, hp18, hb⟩ := hb
  replace hb : zHd _ := hb
  refine ZV.imp (u_2092 x13 (by omega) (by omega) hN hJ10.1 hp18) ?_
  rintro _ ⟨x20, M15, rfl, h21, h22, hJ16, hq19⟩
  replace hb : zHd _ := hb x20.toInt h21 h22 (zi M15) (zi_fr hJ16.2) hq19
  have hJ24 := zJ_trans hJ10 hJ16 zSub_nil
  show ZW _ _ _ _ _ _ _ (16, [some (.ref 0), some (.int a0)], [.int x20, .int x11], M15)
  refine w_add dX8_pairOnTape_16 (by omega) ?_
  intro x25 h26
  replace hb : zHd _ := hb x25.toInt (by omega)
  refine w_eni dX8_pairOnTape_17 rfl rfl ?_
  exact ⟨_, _, rfl, (by omega), (by omega), hJ24, hb⟩
set_option maxRecDepth 100000 in
theorem u_2103 {X : List Int32} {d N : Nat} {M0 : zM} (a0 : Int32) (a1 : Int32) (a2 : Int32) (hN : N ≤ 600) (hB0 : zB N M0) {Q : Int → zF → Prop} (hb : b_2103 N (zi M0) a0.toInt a1.toInt a2.toInt Q) : ZV X (d + 8) 2103 [.ref 0, .int a0, .int a1, .int a2] M0 (zRI N [(49, 50, 0), (63, 64, 0), (359, 360, 0), (49, 50, 1), (63, 64, 1), (360, 361, 1), (26, 28, 1000), (47, 49, 1000), (50, 63, 1000), (64, 77, 1000), (361, 362, 1000), (49, 50, 14), (63, 64, 14)] M0 (-2147483648) (2147483647) (fun v M' => Q v.toInt (zi M'))) := by
  have hJ0 : zJ N [(49, 50, 0), (63, 64, 0), (359, 360, 0), (49, 50, 1), (63, 64, 1), (360, 361, 1), (26, 28, 1000), (47, 49, 1000), (50, 63, 1000), (64, 77, 1000), (361, 362, 1000), (49, 50, 14), (63, 64, 14)] M0 M0 := zJ_refl hB0
  refine ZV.of (ini := false) rfl (Nat.le_of_ble_eq_true rfl) (by decide +kernel) ?_
  obtain ⟨I67, I76, I116, hbE, hb67, hb76, hb116⟩ := hb
  replace hbE : zHd _ := hbE
  replace hb67 : zHd _ := hb67
  replace hb76 : zHd _ := hb76
  replace hb116 : zHd _ := hb116
  have main : ∀ n : Nat,
      (∀ (M : zM) (v67_1 : Int32) (v67_2 : Int32) (v67_3 : Int32) (v67_4 : Int32) (v67_5 : Int32) (v67_6 : Int32) (v67_7 : Int32) (o67_8 : Option Value), zJ N [(49, 50, 0), (63, 64, 0), (359, 360, 0), (49, 50, 1), (63, 64, 1), (360, 361, 1), (26, 28, 1000), (47, 49, 1000), (50, 63, 1000), (64, 77, 1000), (361, 362, 1000), (49, 50, 14), (63, 64, 14)] M0 M → ((1 : Int) ≤ v67_1.toInt) → (v67_1.toInt ≤ 20) → ((1 : Int) ≤ v67_2.toInt) → (v67_2.toInt ≤ 60) → ((0 : Int) ≤ v67_3.toInt) → (v67_3.toInt ≤ 2) → ((-2147483648 : Int) ≤ v67_4.toInt) → (v67_4.toInt ≤ 2147483647) → ((-2147483648 : Int) ≤ v67_5.toInt) → (v67_5.toInt ≤ 2147483647) → ((-2147483648 : Int) ≤ v67_6.toInt) → (v67_6.toInt ≤ 2147483647) → ((0 : Int) ≤ v67_7.toInt) → (v67_7.toInt ≤ 20) → I67 n (zi M) v67_1.toInt v67_2.toInt v67_3.toInt v67_4.toInt v67_5.toInt v67_6.toInt v67_7.toInt → ZW X (d + 7) 8 false (some .int) cX8_nights (zRI N [(49, 50, 0), (63, 64, 0), (359, 360, 0), (49, 50, 1), (63, 64, 1), (360, 361, 1), (26, 28, 1000), (47, 49, 1000), (50, 63, 1000), (64, 77, 1000), (361, 362, 1000), (49, 50, 14), (63, 64, 14)] M0 (-2147483648) (2147483647) (fun v M' => Q v.toInt (zi M'))) (67, [some (.ref 0), some (.int v67_1), some (.int v67_2), some (.int v67_3), some (.int v67_4), some (.int v67_5), some (.int v67_6), some (.int v67_7), o67_8], [], M)) ∧
      (∀ (M : zM) (v76_1 : Int32) (v76_2 : Int32) (v76_3 : Int32) (v76_4 : Int32) (v76_5 : Int32) (v76_6 : Int32) (v76_7 : Int32) (v76_8 : Int32), zJ N [(49, 50, 0), (63, 64, 0), (359, 360, 0), (49, 50, 1), (63, 64, 1), (360, 361, 1), (26, 28, 1000), (47, 49, 1000), (50, 63, 1000), (64, 77, 1000), (361, 362, 1000), (49, 50, 14), (63, 64, 14)] M0 M → ((1 : Int) ≤ v76_1.toInt) → (v76_1.toInt ≤ 20) → ((1 : Int) ≤ v76_2.toInt) → (v76_2.toInt ≤ 60) → ((0 : Int) ≤ v76_3.toInt) → (v76_3.toInt ≤ 2) → ((-2147483648 : Int) ≤ v76_4.toInt) → (v76_4.toInt ≤ 2147483647) → ((-2147483648 : Int) ≤ v76_5.toInt) → (v76_5.toInt ≤ 2147483647) → ((-2147483648 : Int) ≤ v76_6.toInt) → (v76_6.toInt ≤ 2147483647) → ((0 : Int) ≤ v76_7.toInt) → (v76_7.toInt ≤ 19) → ((0 : Int) ≤ v76_8.toInt) → (v76_8.toInt ≤ 62) → I76 n (zi M) v76_1.toInt v76_2.toInt v76_3.toInt v76_4.toInt v76_5.toInt v76_6.toInt v76_7.toInt v76_8.toInt → ZW X (d + 7) 8 false (some .int) cX8_nights (zRI N [(49, 50, 0), (63, 64, 0), (359, 360, 0), (49, 50, 1), (63, 64, 1), (360, 361, 1), (26, 28, 1000), (47, 49, 1000), (50, 63, 1000), (64, 77, 1000), (361, 362, 1000), (49, 50, 14), (63, 64, 14)] M0 (-2147483648) (2147483647) (fun v M' => Q v.toInt (zi M'))) (76, [some (.ref 0), some (.int v76_1), some (.int v76_2), some (.int v76_3), some (.int v76_4), some (.int v76_5), some (.int v76_6), some (.int v76_7), some (.int v76_8)], [], M)) ∧
      (∀ (M : zM) (v116_1 : Int32) (v116_2 : Int32) (v116_3 : Int32) (v116_4 : Int32) (v116_5 : Int32) (v116_6 : Int32) (v116_7 : Int32) (u116_8 : Int32), zJ N [(49, 50, 0), (63, 64, 0), (359, 360, 0), (49, 50, 1), (63, 64, 1), (360, 361, 1), (26, 28, 1000), (47, 49, 1000), (50, 63, 1000), (64, 77, 1000), (361, 362, 1000), (49, 50, 14), (63, 64, 14)] M0 M → ((1 : Int) ≤ v116_1.toInt) → (v116_1.toInt ≤ 20) → ((1 : Int) ≤ v116_2.toInt) → (v116_2.toInt ≤ 60) → ((0 : Int) ≤ v116_3.toInt) → (v116_3.toInt ≤ 2) → ((-2147483648 : Int) ≤ v116_4.toInt) → (v116_4.toInt ≤ 2147483647) → ((-2147483648 : Int) ≤ v116_5.toInt) → (v116_5.toInt ≤ 2147483647) → ((-2147483648 : Int) ≤ v116_6.toInt) → (v116_6.toInt ≤ 2147483647) → ((0 : Int) ≤ v116_7.toInt) → (v116_7.toInt ≤ 19) → I116 n (zi M) v116_1.toInt v116_2.toInt v116_3.toInt v116_4.toInt v116_5.toInt v116_6.toInt v116_7.toInt → ZW X (d + 7) 8 false (some .int) cX8_nights (zRI N [(49, 50, 0), (63, 64, 0), (359, 360, 0), (49, 50, 1), (63, 64, 1), (360, 361, 1), (26, 28, 1000), (47, 49, 1000), (50, 63, 1000), (64, 77, 1000), (361, 362, 1000), (49, 50, 14), (63, 64, 14)] M0 (-2147483648) (2147483647) (fun v M' => Q v.toInt (zi M'))) (116, [some (.ref 0), some (.int v116_1), some (.int v116_2), some (.int v116_3), some (.int v116_4), some (.int v116_5), some (.int v116_6), some (.int v116_7), some (.int u116_8)], [], M)) := by
    intro n
    induction n using Nat.strongRecOn with
    | _ n ih =>
      refine ⟨?_, ?_, ?_⟩
      · intro M v67_1 v67_2 v67_3 v67_4 v67_5 v67_6 v67_7 o67_8 hJ v67_10 v67_11 v67_20 v67_21 v67_30 v67_31 v67_40 v67_41 v67_50 v67_51 v67_60 v67_61 v67_70 v67_71 hI
        have hb : zHd _ := hb67 n (zi M) v67_1.toInt v67_2.toInt v67_3.toInt v67_4.toInt v67_5.toInt v67_6.toInt v67_7.toInt (zi_fr hJ.2) v67_10 v67_11 v67_20 v67_21 v67_30 v67_31 v67_70 v67_71 hI
        refine w_lo dX8_nights_67 rfl rfl rfl rfl ?_
        refine w_lo dX8_nights_69 rfl rfl rfl rfl ?_
        rcases zcut v67_7.toInt v67_1.toInt with h1 | h1
        · skip
          replace hb : zHd _ := hb.1 h1
          refine w_cge_f dX8_nights_70 (t := 182) rfl (by omega) ?_
          refine w_ic dX8_nights_73 zi_0 ?_
          refine w_lo (ml' := [some (.ref 0), some (.int v67_1), some (.int v67_2), some (.int v67_3), some (.int v67_4), some (.int v67_5), some (.int v67_6), some (.int v67_7), some (.int 0)]) dX8_nights_74 rfl rfl rfl rfl ?_
          obtain ⟨m, hm, hI⟩ := hb
          exact (ih m hm).2.1 M v67_1 v67_2 v67_3 v67_4 v67_5 v67_6 v67_7 0 hJ (by omega) (by omega) (by omega) (by omega) (by omega) (by omega) (zbot _) (ztop _) (zbot _) (ztop _) (zbot _) (ztop _) (by omega) (by omega) (by have := zt_0; omega) (by have := zt_0; omega) hI
        · skip
          replace hb : zHd _ := hb.2 h1
          refine w_cge_t dX8_nights_70 (t := 182) rfl (by omega) ?_
          refine w_lo dX8_nights_182 rfl rfl rfl rfl ?_
          rcases Int.decEq v67_3.toInt (0 : Int) with h2 | h2
          · skip
            replace hb : zHd _ := hb.1 h2
            refine w_ine_t dX8_nights_183 (t := 191) rfl (by omega) ?_
            refine w_lo dX8_nights_191 rfl rfl rfl rfl ?_
            refine w_ic dX8_nights_192 zi_1 ?_
            rcases Int.decEq v67_3.toInt (1 : Int) with h3 | h3
            · skip
              replace hb : zHd _ := hb.1 h3
              refine w_cne_t dX8_nights_193 (t := 201) rfl (by have := zt_1; omega) ?_
              refine w_lo dX8_nights_201 rfl rfl rfl rfl ?_
              refine w_eni dX8_nights_203 rfl rfl ?_
              exact ⟨_, _, rfl, (zbot _), (ztop _), hJ, hb⟩
            · skip
              replace hb : zHd _ := hb.2 h3
              refine w_cne_f dX8_nights_193 (t := 201) rfl (by have := zt_1; omega) ?_
              refine w_lo dX8_nights_196 rfl rfl rfl rfl ?_
              refine w_gt dX8_nights_198 (t := 203) rfl ?_
              refine w_eni dX8_nights_203 rfl rfl ?_
              exact ⟨_, _, rfl, (zbot _), (ztop _), hJ, hb⟩
          · skip
            replace hb : zHd _ := hb.2 h2
            refine w_ine_f dX8_nights_183 (t := 191) rfl (by omega) ?_
            refine w_lo dX8_nights_186 rfl rfl rfl rfl ?_
            refine w_gt dX8_nights_188 (t := 203) rfl ?_
            refine w_eni dX8_nights_203 rfl rfl ?_
            exact ⟨_, _, rfl, (zbot _), (ztop _), hJ, hb⟩
      · intro M v76_1 v76_2 v76_3 v76_4 v76_5 v76_6 v76_7 v76_8 hJ v76_10 v76_11 v76_20 v76_21 v76_30 v76_31 v76_40 v76_41 v76_50 v76_51 v76_60 v76_61 v76_70 v76_71 v76_80 v76_81 hI
        have hb : zHd _ := hb76 n (zi M) v76_1.toInt v76_2.toInt v76_3.toInt v76_4.toInt v76_5.toInt v76_6.toInt v76_7.toInt v76_8.toInt (zi_fr hJ.2) v76_10 v76_11 v76_20 v76_21 v76_30 v76_31 v76_70 v76_71 v76_80 v76_81 hI
        refine w_lo dX8_nights_76 rfl rfl rfl rfl ?_
        refine w_lo dX8_nights_78 rfl rfl rfl rfl ?_
        rcases zcut v76_8.toInt v76_2.toInt with h4 | h4
        · skip
          replace hb : zHd _ := hb.1 h4
          refine w_cge_f dX8_nights_79 (t := 116) rfl (by omega) ?_
          refine w_lo dX8_nights_82 rfl rfl rfl rfl ?_
          refine w_gf dX8_nights_83 rfl hJ.1.1 zs_0 (zr_0_4 hJ.1) ?_
          refine w_gfi dX8_nights_86 rfl hJ.1 zs_49 (Nat.le_of_ble_eq_true rfl) zo_49_1 ?_
          intro x5 f6 h7 h8
          replace hb : zHd _ := hb x5.toInt (ziE f6)
          refine w_si dX8_nights_89 (c := 999) (by decide) ?_
          rcases zcut x5.toInt (999 : Int) with h9 | h9
          · skip
            replace hb : zHd _ := hb.1 h9
            refine w_cge_f dX8_nights_92 (t := 116) rfl (by have := zt_999; omega) ?_
            refine w_lo dX8_nights_95 rfl rfl rfl rfl ?_
            refine w_gf dX8_nights_96 rfl hJ.1.1 zs_0 (zr_0_7 hJ.1) ?_
            refine w_lo dX8_nights_99 rfl rfl rfl rfl ?_
            obtain ⟨b10, f11, h12⟩ := zd_0_3 hJ.1
            have h13 := zDm_b h12
            refine w_gf dX8_nights_100 rfl hJ.1.1 zs_0 f11 ?_
            replace hb : zHd _ := hb b10 (ziR f11) (zDm_or h12)
            refine w_lo dX8_nights_103 rfl rfl rfl rfl ?_
            refine w_gf dX8_nights_104 rfl hJ.1.1 zs_0 (zr_0_4 hJ.1) ?_
            obtain ⟨x16, f17, h18, h19⟩ := zB_cnt hJ.1 zs_49 (Nat.le_of_ble_eq_true rfl) zo_49_14
            replace hb : zHd _ := hb x16.toInt (ziE f17) h18
            have h20 := hb.1
            replace hb : zHd _ := hb.2
            refine w_iv dX8_nights_107 rfl rfl (As := [.ref b10, .ref 49]) rfl rfl hJ.1.1 zs_359 (Nat.le_of_ble_eq_true rfl) ?_
            refine ZV.imp (k_769 b10 h12 49 hb_6_49 x16 f17 (by omega) (by omega) hN hJ.1) ?_
            rintro _ ⟨M14, rfl, hJ15, hq21⟩
            replace hb : zHd _ := hb  (zi M14) (zi_fr hJ15.2)
            have hJ23 := zJ_trans hJ hJ15 (zSub_cons (fun _ _ h h' hk => ((zDm_or h12).elim (fun e => zIR_s (zIR_s (zIR_s (zIR_s (zIR_s (zIR_s (zIR_a (by omega) (by omega)))))))) (fun e => zIR_s (zIR_s (zIR_s (zIR_s (zIR_s (zIR_s (zIR_s (zIR_a (by omega) (by omega))))))))))) (zSub_cons (fun _ _ h h' hk => zIR_s (zIR_s (zIR_s (zIR_e (by omega) (by omega) hk)))) (zSub_cons (fun _ _ h h' hk => zIR_s (zIR_s (zIR_s (zIR_s (zIR_s (zIR_s (zIR_s (zIR_s (zIR_a (by omega) (by omega)))))))))) (zSub_cons (fun _ _ h h' hk => zIR_s (zIR_s (zIR_s (zIR_s (zIR_s (zIR_s (zIR_s (zIR_s (zIR_a (by omega) (by omega)))))))))) (zSub_cons (fun _ _ h h' hk => zIR_s (zIR_s (zIR_s (zIR_s (zIR_s (zIR_s (zIR_s (zIR_s (zIR_s (zIR_s (zIR_s (zIR_e (by omega) (by omega) hk)))))))))))) (zSub_cons (fun _ _ h h' hk => zIR_s (zIR_s (zIR_e (by omega) (by omega) hk))) (zSub_cons (fun _ _ h h' hk => zIR_s (zIR_s (zIR_s (zIR_s (zIR_s (zIR_e (by omega) (by omega) hk)))))) (zSub_cons (fun _ _ h h' hk => zIR_s (zIR_s (zIR_s (zIR_s (zIR_s (zIR_s (zIR_s (zIR_s (zIR_s (zIR_s (zIR_a (by omega) (by omega)))))))))))) zSub_nil))))))))
            obtain ⟨x24, f25, h26, h27, -⟩ := hq21
            replace hb : zHd _ := hb x24.toInt (ziE f25) h26 h27
            show ZW _ _ _ _ _ _ _ (110, [some (.ref 0), some (.int v76_1), some (.int v76_2), some (.int v76_3), some (.int v76_4), some (.int v76_5), some (.int v76_6), some (.int v76_7), some (.int v76_8)], [], M14)
            refine w_inc (kk := 8) dX8_nights_110 rfl (m := 1) (by decide) (by omega) ?_
            intro x28 h29
            refine ⟨_, rfl, ?_⟩
            replace hb : zHd _ := hb x28.toInt h29
            show ZW _ _ _ _ _ _ _ (113, [some (.ref 0), some (.int v76_1), some (.int v76_2), some (.int v76_3), some (.int v76_4), some (.int v76_5), some (.int v76_6), some (.int v76_7), some (.int x28)], [], M14)
            refine w_gt dX8_nights_113 (t := 76) rfl ?_
            obtain ⟨m, hm, hI⟩ := hb
            exact (ih m hm).2.1 M14 v76_1 v76_2 v76_3 v76_4 v76_5 v76_6 v76_7 x28 hJ23 (by omega) (by omega) (by omega) (by omega) (by omega) (by omega) (zbot _) (ztop _) (zbot _) (ztop _) (zbot _) (ztop _) (by omega) (by omega) (by omega) (by omega) hI
          · skip
            replace hb : zHd _ := hb.2 h9
            refine w_cge_t dX8_nights_92 (t := 116) rfl (by have := zt_999; omega) ?_
            obtain ⟨m, hm, hI⟩ := hb
            exact (ih m hm).2.2 M v76_1 v76_2 v76_3 v76_4 v76_5 v76_6 v76_7 v76_8 hJ (by omega) (by omega) (by omega) (by omega) (by omega) (by omega) (zbot _) (ztop _) (zbot _) (ztop _) (zbot _) (ztop _) (by omega) (by omega) hI
        · skip
          replace hb : zHd _ := hb.2 h4
          refine w_cge_t dX8_nights_79 (t := 116) rfl (by omega) ?_
          obtain ⟨m, hm, hI⟩ := hb
          exact (ih m hm).2.2 M v76_1 v76_2 v76_3 v76_4 v76_5 v76_6 v76_7 v76_8 hJ (by omega) (by omega) (by omega) (by omega) (by omega) (by omega) (zbot _) (ztop _) (zbot _) (ztop _) (zbot _) (ztop _) (by omega) (by omega) hI
      · intro M v116_1 v116_2 v116_3 v116_4 v116_5 v116_6 v116_7 u116_8 hJ v116_10 v116_11 v116_20 v116_21 v116_30 v116_31 v116_40 v116_41 v116_50 v116_51 v116_60 v116_61 v116_70 v116_71 hI
        have hb : zHd _ := hb116 n (zi M) v116_1.toInt v116_2.toInt v116_3.toInt v116_4.toInt v116_5.toInt v116_6.toInt v116_7.toInt (zi_fr hJ.2) v116_10 v116_11 v116_20 v116_21 v116_30 v116_31 v116_70 v116_71 hI
        refine w_lo dX8_nights_116 rfl rfl rfl rfl ?_
        refine w_lo dX8_nights_118 rfl rfl rfl rfl ?_
        refine w_gf dX8_nights_119 rfl hJ.1.1 zs_0 (zr_0_4 hJ.1) ?_
        refine w_gfc dX8_nights_122 rfl hJ.1 zs_49 (Nat.le_of_ble_eq_true rfl) zo_49_14 ?_
        intro x30 f31 h32 h33
        replace hb : zHd _ := hb x30.toInt (ziE f31) h32
        refine w_lo dX8_nights_125 rfl rfl rfl rfl ?_
        refine w_gf dX8_nights_126 rfl hJ.1.1 zs_0 (zr_0_5 hJ.1) ?_
        refine w_gfc dX8_nights_129 rfl hJ.1 zs_63 (Nat.le_of_ble_eq_true rfl) zo_63_14 ?_
        intro x34 f35 h36 h37
        replace hb : zHd _ := hb x34.toInt (ziE f35) h36
        refine w_sub dX8_nights_132 (by omega) ?_
        intro x38 h39
        replace hb : zHd _ := hb x38.toInt (by omega)
        refine w_puI dX8_nights_133 rfl rfl ?_
        intro x40
        replace hb : zHd _ := hb x40.toInt 
        refine w_lo (ml' := [some (.ref 0), some (.int v116_1), some (.int v116_2), some (.int v116_3), some (.int x40), some (.int v116_5), some (.int v116_6), some (.int v116_7), some (.int u116_8)]) dX8_nights_134 rfl rfl rfl rfl ?_
        refine w_lo dX8_nights_136 rfl rfl rfl rfl ?_
        refine w_lo dX8_nights_138 rfl rfl rfl rfl ?_
        refine w_gf dX8_nights_139 rfl hJ.1.1 zs_0 (zr_0_4 hJ.1) ?_
        refine w_iv dX8_nights_142 rfl rfl (As := []) rfl rfl hJ.1.1 zs_49 (Nat.le_of_ble_eq_true rfl) ?_
        refine ZV.imp (k_1538 49 hb_6_49 hN hJ.1) ?_
        rintro _ ⟨x44, M41, rfl, h45, h46, hJ42, hq43⟩
        replace hb : zHd _ := hb x44.toInt  (zi M41) (zi_fr hJ42.2)
        have hJ48 := zJ_trans hJ hJ42 zSub_nil
        show ZW _ _ _ _ _ _ _ (145, [some (.ref 0), some (.int v116_1), some (.int v116_2), some (.int v116_3), some (.int x40), some (.int v116_5), some (.int v116_6), some (.int v116_7), some (.int u116_8)], [.int x44, .int v116_5], M41)
        refine w_puI dX8_nights_145 rfl rfl ?_
        intro x49
        replace hb : zHd _ := hb x49.toInt 
        refine w_lo (ml' := [some (.ref 0), some (.int v116_1), some (.int v116_2), some (.int v116_3), some (.int x40), some (.int x49), some (.int v116_6), some (.int v116_7), some (.int u116_8)]) dX8_nights_146 rfl rfl rfl rfl ?_
        refine w_lo dX8_nights_148 rfl rfl rfl rfl ?_
        refine w_lo dX8_nights_150 rfl rfl rfl rfl ?_
        refine w_iv dX8_nights_151 rfl rfl (As := []) rfl rfl hJ48.1.1 zs_0 (Nat.le_of_ble_eq_true rfl) ?_
        refine ZV.imp (k_2104 hN hJ48.1) ?_
        rintro _ ⟨x53, M50, rfl, h54, h55, hJ51, hq52⟩
        replace hb : zHd _ := hb x53.toInt h54 h55 (zi M50) (zi_fr hJ51.2)
        have hJ57 := zJ_trans hJ48 hJ51 zSub_nil
        show ZW _ _ _ _ _ _ _ (154, [some (.ref 0), some (.int v116_1), some (.int v116_2), some (.int v116_3), some (.int x40), some (.int x49), some (.int v116_6), some (.int v116_7), some (.int u116_8)], [.int x53, .int v116_6], M50)
        rcases Int.decEq x53.toInt (0 : Int) with h58 | h58
        · skip
          replace hb : zHd _ := hb.1 h58
          refine w_ieq_f dX8_nights_154 (t := 161) rfl (by omega) ?_
          refine w_ic dX8_nights_157 zi_1 ?_
          refine w_gt dX8_nights_158 (t := 162) rfl ?_
          refine w_puI dX8_nights_162 rfl rfl ?_
          intro x59
          replace hb : zHd _ := hb x59.toInt 
          refine w_lo (ml' := [some (.ref 0), some (.int v116_1), some (.int v116_2), some (.int v116_3), some (.int x40), some (.int x49), some (.int x59), some (.int v116_7), some (.int u116_8)]) dX8_nights_163 rfl rfl rfl rfl ?_
          refine w_lo dX8_nights_165 rfl rfl rfl rfl ?_
          refine w_gf dX8_nights_166 rfl hJ57.1.1 zs_0 (zr_0_4 hJ57.1) ?_
          refine w_lo dX8_nights_169 rfl rfl rfl rfl ?_
          refine w_gf dX8_nights_170 rfl hJ57.1.1 zs_0 (zr_0_5 hJ57.1) ?_
          refine w_iv dX8_nights_173 rfl rfl (As := [.ref 63]) rfl rfl hJ57.1.1 zs_49 (Nat.le_of_ble_eq_true rfl) ?_
          obtain ⟨P62, hp63, hb⟩ := hb
          replace hb : zHd _ := hb
          refine ZV.imp (u_1542 49 hb_6_49 63 hb_6_63 hN hJ57.1 hp63) ?_
          rintro _ ⟨M60, rfl, hJ61, hq64⟩
          replace hb : zHd _ := hb  (zi M60) (zi_fr hJ61.2) hq64
          have hJ66 := zJ_trans hJ57 hJ61 (zSub_cons (fun _ _ h h' hk => zIR_e (by omega) (by omega) hk) (zSub_cons (fun _ _ h h' hk => zIR_s (zIR_s (zIR_s (zIR_e (by omega) (by omega) hk)))) (zSub_cons (fun _ _ h h' hk => zIR_s (zIR_s (zIR_s (zIR_s (zIR_s (zIR_s (zIR_s (zIR_s (zIR_a (by omega) (by omega)))))))))) (zSub_cons (fun _ _ h h' hk => zIR_s (zIR_s (zIR_s (zIR_s (zIR_s (zIR_s (zIR_s (zIR_s (zIR_s (zIR_s (zIR_s (zIR_e (by omega) (by omega) hk)))))))))))) zSub_nil))))
          show ZW _ _ _ _ _ _ _ (176, [some (.ref 0), some (.int v116_1), some (.int v116_2), some (.int v116_3), some (.int x40), some (.int x49), some (.int x59), some (.int v116_7), some (.int u116_8)], [], M60)
          refine w_inc (kk := 7) dX8_nights_176 rfl (m := 1) (by decide) (by omega) ?_
          intro x67 h68
          refine ⟨_, rfl, ?_⟩
          replace hb : zHd _ := hb x67.toInt h68
          show ZW _ _ _ _ _ _ _ (179, [some (.ref 0), some (.int v116_1), some (.int v116_2), some (.int v116_3), some (.int x40), some (.int x49), some (.int x59), some (.int x67), some (.int u116_8)], [], M60)
          refine w_gt dX8_nights_179 (t := 67) rfl ?_
          obtain ⟨m, hm, hI⟩ := hb
          exact (ih m hm).1 M60 v116_1 v116_2 v116_3 x40 x49 x59 x67 (some (.int u116_8)) hJ66 (by omega) (by omega) (by omega) (by omega) (by omega) (by omega) (zbot _) (ztop _) (zbot _) (ztop _) (zbot _) (ztop _) (by omega) (by omega) hI
        · skip
          replace hb : zHd _ := hb.2 h58
          refine w_ieq_t dX8_nights_154 (t := 161) rfl (by omega) ?_
          refine w_ic dX8_nights_161 zi_0 ?_
          refine w_add dX8_nights_162 (by have := zt_0; omega) ?_
          intro x69 h70
          have := zt_0
          replace hb : zHd _ := hb x69.toInt (by have := zt_0; omega)
          refine w_lo (ml' := [some (.ref 0), some (.int v116_1), some (.int v116_2), some (.int v116_3), some (.int x40), some (.int x49), some (.int x69), some (.int v116_7), some (.int u116_8)]) dX8_nights_163 rfl rfl rfl rfl ?_
          refine w_lo dX8_nights_165 rfl rfl rfl rfl ?_
          refine w_gf dX8_nights_166 rfl hJ57.1.1 zs_0 (zr_0_4 hJ57.1) ?_
          refine w_lo dX8_nights_169 rfl rfl rfl rfl ?_
          refine w_gf dX8_nights_170 rfl hJ57.1.1 zs_0 (zr_0_5 hJ57.1) ?_
          refine w_iv dX8_nights_173 rfl rfl (As := [.ref 63]) rfl rfl hJ57.1.1 zs_49 (Nat.le_of_ble_eq_true rfl) ?_
          obtain ⟨P73, hp74, hb⟩ := hb
          replace hb : zHd _ := hb
          refine ZV.imp (u_1542 49 hb_6_49 63 hb_6_63 hN hJ57.1 hp74) ?_
          rintro _ ⟨M71, rfl, hJ72, hq75⟩
          replace hb : zHd _ := hb  (zi M71) (zi_fr hJ72.2) hq75
          have hJ77 := zJ_trans hJ57 hJ72 (zSub_cons (fun _ _ h h' hk => zIR_e (by omega) (by omega) hk) (zSub_cons (fun _ _ h h' hk => zIR_s (zIR_s (zIR_s (zIR_e (by omega) (by omega) hk)))) (zSub_cons (fun _ _ h h' hk => zIR_s (zIR_s (zIR_s (zIR_s (zIR_s (zIR_s (zIR_s (zIR_s (zIR_a (by omega) (by omega)))))))))) (zSub_cons (fun _ _ h h' hk => zIR_s (zIR_s (zIR_s (zIR_s (zIR_s (zIR_s (zIR_s (zIR_s (zIR_s (zIR_s (zIR_s (zIR_e (by omega) (by omega) hk)))))))))))) zSub_nil))))
          show ZW _ _ _ _ _ _ _ (176, [some (.ref 0), some (.int v116_1), some (.int v116_2), some (.int v116_3), some (.int x40), some (.int x49), some (.int x69), some (.int v116_7), some (.int u116_8)], [], M71)
          refine w_inc (kk := 7) dX8_nights_176 rfl (m := 1) (by decide) (by omega) ?_
          intro x78 h79
          refine ⟨_, rfl, ?_⟩
          replace hb : zHd _ := hb x78.toInt h79
          show ZW _ _ _ _ _ _ _ (179, [some (.ref 0), some (.int v116_1), some (.int v116_2), some (.int v116_3), some (.int x40), some (.int x49), some (.int x69), some (.int x78), some (.int u116_8)], [], M71)
          refine w_gt dX8_nights_179 (t := 67) rfl ?_
          obtain ⟨m, hm, hI⟩ := hb
          exact (ih m hm).1 M71 v116_1 v116_2 v116_3 x40 x49 x69 x78 (some (.int u116_8)) hJ77 (by omega) (by omega) (by omega) (by omega) (by omega) (by omega) (zbot _) (ztop _) (zbot _) (ztop _) (zbot _) (ztop _) (by omega) (by omega) hI
  have hb : zHd _ := hbE
  show ZW _ _ _ _ _ _ _ (0, [some (.ref 0), some (.int a0), some (.int a1), some (.int a2), none, none, none, none, none], [], M0)
  refine w_lo dX8_nights_0 rfl rfl rfl rfl ?_
  refine w_ic dX8_nights_1 zi_1 ?_
  rcases zcut a0.toInt (1 : Int) with h80 | h80
  · skip
    replace hb : zHd _ := hb.1 h80
    refine w_clt_t dX8_nights_2 (t := 42) rfl (by have := zt_1; omega) ?_
    refine w_ic dX8_nights_42 zi_m1 ?_
    refine w_en dX8_nights_43 rfl ?_
    exact ⟨_, _, rfl, (zbot _), (ztop _), hJ0, hb⟩
  · skip
    replace hb : zHd _ := hb.2 h80
    refine w_clt_f dX8_nights_2 (t := 42) rfl (by have := zt_1; omega) ?_
    refine w_lo dX8_nights_5 rfl rfl rfl rfl ?_
    refine w_bi dX8_nights_6 (c := 20) (by decide) ?_
    rcases zcut (20 : Int) a0.toInt with h81 | h81
    · skip
      replace hb : zHd _ := hb.1 h81
      refine w_cgt_t dX8_nights_8 (t := 42) rfl (by have := zt_20; omega) ?_
      refine w_ic dX8_nights_42 zi_m1 ?_
      refine w_en dX8_nights_43 rfl ?_
      exact ⟨_, _, rfl, (zbot _), (ztop _), hJ0, hb⟩
    · skip
      replace hb : zHd _ := hb.2 h81
      refine w_cgt_f dX8_nights_8 (t := 42) rfl (by have := zt_20; omega) ?_
      refine w_lo dX8_nights_11 rfl rfl rfl rfl ?_
      refine w_ic dX8_nights_12 zi_1 ?_
      rcases zcut a1.toInt (1 : Int) with h82 | h82
      · skip
        replace hb : zHd _ := hb.1 h82
        refine w_clt_t dX8_nights_13 (t := 42) rfl (by have := zt_1; omega) ?_
        refine w_ic dX8_nights_42 zi_m1 ?_
        refine w_en dX8_nights_43 rfl ?_
        exact ⟨_, _, rfl, (zbot _), (ztop _), hJ0, hb⟩
      · skip
        replace hb : zHd _ := hb.2 h82
        refine w_clt_f dX8_nights_13 (t := 42) rfl (by have := zt_1; omega) ?_
        refine w_lo dX8_nights_16 rfl rfl rfl rfl ?_
        refine w_bi dX8_nights_17 (c := 60) (by decide) ?_
        rcases zcut (60 : Int) a1.toInt with h83 | h83
        · skip
          replace hb : zHd _ := hb.1 h83
          refine w_cgt_t dX8_nights_19 (t := 42) rfl (by have := zt_60; omega) ?_
          refine w_ic dX8_nights_42 zi_m1 ?_
          refine w_en dX8_nights_43 rfl ?_
          exact ⟨_, _, rfl, (zbot _), (ztop _), hJ0, hb⟩
        · skip
          replace hb : zHd _ := hb.2 h83
          refine w_cgt_f dX8_nights_19 (t := 42) rfl (by have := zt_60; omega) ?_
          refine w_lo dX8_nights_22 rfl rfl rfl rfl ?_
          rcases zcut a2.toInt (0 : Int) with h84 | h84
          · skip
            replace hb : zHd _ := hb.1 h84
            refine w_ilt_t dX8_nights_23 (t := 42) rfl (by omega) ?_
            refine w_ic dX8_nights_42 zi_m1 ?_
            refine w_en dX8_nights_43 rfl ?_
            exact ⟨_, _, rfl, (zbot _), (ztop _), hJ0, hb⟩
          · skip
            replace hb : zHd _ := hb.2 h84
            refine w_ilt_f dX8_nights_23 (t := 42) rfl (by omega) ?_
            refine w_lo dX8_nights_26 rfl rfl rfl rfl ?_
            refine w_ic dX8_nights_27 zi_2 ?_
            rcases zcut (2 : Int) a2.toInt with h85 | h85
            · skip
              replace hb : zHd _ := hb.1 h85
              refine w_cgt_t dX8_nights_28 (t := 42) rfl (by have := zt_2; omega) ?_
              refine w_ic dX8_nights_42 zi_m1 ?_
              refine w_en dX8_nights_43 rfl ?_
              exact ⟨_, _, rfl, (zbot _), (ztop _), hJ0, hb⟩
            · skip
              replace hb : zHd _ := hb.2 h85
              refine w_cgt_f dX8_nights_28 (t := 42) rfl (by have := zt_2; omega) ?_
              refine w_lo dX8_nights_31 rfl rfl rfl rfl ?_
              refine w_gf dX8_nights_32 rfl hJ0.1.1 zs_0 (zr_0_4 hJ0.1) ?_
              refine w_gfi dX8_nights_35 rfl hJ0.1 zs_49 (Nat.le_of_ble_eq_true rfl) zo_49_0 ?_
              intro x86 f87 h88 h89
              replace hb : zHd _ := hb x86.toInt (ziE f87) h88 h89
              refine w_ic dX8_nights_38 zi_1 ?_
              rcases zcut x86.toInt (1 : Int) with h90 | h90
              · skip
                replace hb : zHd _ := hb.1 h90
                refine w_cge_f dX8_nights_39 (t := 44) rfl (by have := zt_1; omega) ?_
                refine w_ic dX8_nights_42 zi_m1 ?_
                refine w_en dX8_nights_43 rfl ?_
                exact ⟨_, _, rfl, (zbot _), (ztop _), hJ0, hb⟩
              · skip
                replace hb : zHd _ := hb.2 h90
                refine w_cge_t dX8_nights_39 (t := 44) rfl (by have := zt_1; omega) ?_
                refine w_ic dX8_nights_44 zi_0 ?_
                refine w_lo (ml' := [some (.ref 0), some (.int a0), some (.int a1), some (.int a2), some (.int 0), none, none, none, none]) dX8_nights_45 rfl rfl rfl rfl ?_
                refine w_ic dX8_nights_47 zi_0 ?_
                refine w_lo (ml' := [some (.ref 0), some (.int a0), some (.int a1), some (.int a2), some (.int 0), some (.int 0), none, none, none]) dX8_nights_48 rfl rfl rfl rfl ?_
                refine w_ic dX8_nights_50 zi_0 ?_
                refine w_lo (ml' := [some (.ref 0), some (.int a0), some (.int a1), some (.int a2), some (.int 0), some (.int 0), some (.int 0), none, none]) dX8_nights_51 rfl rfl rfl rfl ?_
                refine w_lo dX8_nights_53 rfl rfl rfl rfl ?_
                refine w_gf dX8_nights_54 rfl hJ0.1.1 zs_0 (zr_0_5 hJ0.1) ?_
                refine w_lo dX8_nights_57 rfl rfl rfl rfl ?_
                refine w_gf dX8_nights_58 rfl hJ0.1.1 zs_0 (zr_0_4 hJ0.1) ?_
                refine w_iv dX8_nights_61 rfl rfl (As := [.ref 49]) rfl rfl hJ0.1.1 zs_63 (Nat.le_of_ble_eq_true rfl) ?_
                obtain ⟨P93, hp94, hb⟩ := hb
                replace hb : zHd _ := hb
                refine ZV.imp (u_1542 63 hb_6_63 49 hb_6_49 hN hJ0.1 hp94) ?_
                rintro _ ⟨M91, rfl, hJ92, hq95⟩
                replace hb : zHd _ := hb  (zi M91) (zi_fr hJ92.2) hq95
                have hJ97 := zJ_trans hJ0 hJ92 (zSub_cons (fun _ _ h h' hk => zIR_s (zIR_e (by omega) (by omega) hk)) (zSub_cons (fun _ _ h h' hk => zIR_s (zIR_s (zIR_s (zIR_s (zIR_e (by omega) (by omega) hk))))) (zSub_cons (fun _ _ h h' hk => zIR_s (zIR_s (zIR_s (zIR_s (zIR_s (zIR_s (zIR_s (zIR_s (zIR_s (zIR_a (by omega) (by omega))))))))))) (zSub_cons (fun _ _ h h' hk => zIR_s (zIR_s (zIR_s (zIR_s (zIR_s (zIR_s (zIR_s (zIR_s (zIR_s (zIR_s (zIR_s (zIR_s (zIR_e (by omega) (by omega) hk))))))))))))) zSub_nil))))
                show ZW _ _ _ _ _ _ _ (64, [some (.ref 0), some (.int a0), some (.int a1), some (.int a2), some (.int 0), some (.int 0), some (.int 0), none, none], [], M91)
                refine w_ic dX8_nights_64 zi_0 ?_
                refine w_lo (ml' := [some (.ref 0), some (.int a0), some (.int a1), some (.int a2), some (.int 0), some (.int 0), some (.int 0), some (.int 0), none]) dX8_nights_65 rfl rfl rfl rfl ?_
                obtain ⟨m, hI⟩ := hb
                exact (main m).1 M91 a0 a1 a2 0 0 0 0 none hJ97 (by omega) (by omega) (by omega) (by omega) (by omega) (by omega) (zbot _) (ztop _) (zbot _) (ztop _) (zbot _) (ztop _) (by have := zt_0; omega) (by have := zt_0; omega) hI
set_option maxRecDepth 100000 in
theorem u_2112 {X : List Int32} {d N : Nat} {M0 : zM} (a0 : Int32) (ha00 : (0 : Int) ≤ a0.toInt) (ha01 : a0.toInt ≤ 11) (a1 : Int32) (ha10 : (0 : Int) ≤ a1.toInt) (ha11 : a1.toInt ≤ 79) (hN : N ≤ 600) (hB0 : zB N M0) {Q : Int → zF → Prop} (hb : b_2112 (zi M0) a0.toInt a1.toInt Q) : ZV X (d + 3) 2112 [.ref 0, .int a0, .int a1] M0 (zRI N [] M0 (0) (1) (fun v M' => Q v.toInt (zi M'))) := by
  have hJ0 : zJ N [] M0 M0 := zJ_refl hB0
  refine ZV.of (ini := false) rfl (Nat.le_of_ble_eq_true rfl) (by decide +kernel) ?_
  obtain ⟨I120, I134, I150, hbE, hb120, hb134, hb150⟩ := hb
  replace hbE : zHd _ := hbE
  replace hb120 : zHd _ := hb120
  replace hb134 : zHd _ := hb134
  replace hb150 : zHd _ := hb150
  have main : ∀ n : Nat,
      (∀ (M : zM) (v120_1 : Int32) (u120_2 : Int32) (v120_3 : Int32) (v120_4 : Int32) (u120_5 : Int32) (v120_6 : Int32) (o120_7 : Option Value), zJ N [] M0 M → ((0 : Int) ≤ v120_1.toInt) → (v120_1.toInt ≤ 11) → ((0 : Int) ≤ v120_3.toInt) → (v120_3.toInt ≤ 1) → ((-1 : Int) ≤ v120_4.toInt) → (v120_4.toInt ≤ 5) → ((-1 : Int) ≤ v120_6.toInt) → (v120_6.toInt ≤ 5) → I120 n (zi M) v120_1.toInt v120_3.toInt v120_4.toInt v120_6.toInt → ZW X (d + 2) 8 false (some .boolean) cX8_isImageOfBoy (zRI N [] M0 (0) (1) (fun v M' => Q v.toInt (zi M'))) (120, [some (.ref 0), some (.int v120_1), some (.int u120_2), some (.int v120_3), some (.int v120_4), some (.int u120_5), some (.int v120_6), o120_7], [], M)) ∧
      (∀ (M : zM) (v134_1 : Int32) (u134_2 : Int32) (v134_3 : Int32) (v134_4 : Int32) (u134_5 : Int32) (v134_6 : Int32) (o134_7 : Option Value), zJ N [] M0 M → ((0 : Int) ≤ v134_1.toInt) → (v134_1.toInt ≤ 11) → ((0 : Int) ≤ v134_3.toInt) → (v134_3.toInt ≤ 1) → ((-1 : Int) ≤ v134_4.toInt) → (v134_4.toInt ≤ 5) → ((-1 : Int) ≤ v134_6.toInt) → (v134_6.toInt ≤ 5) → I134 n (zi M) v134_1.toInt v134_3.toInt v134_4.toInt v134_6.toInt → ZW X (d + 2) 8 false (some .boolean) cX8_isImageOfBoy (zRI N [] M0 (0) (1) (fun v M' => Q v.toInt (zi M'))) (134, [some (.ref 0), some (.int v134_1), some (.int u134_2), some (.int v134_3), some (.int v134_4), some (.int u134_5), some (.int v134_6), o134_7], [], M)) ∧
      (∀ (M : zM) (v150_1 : Int32) (u150_2 : Int32) (v150_3 : Int32) (u150_4 : Int32) (u150_5 : Int32) (u150_6 : Int32) (o150_7 : Option Value), zJ N [] M0 M → ((0 : Int) ≤ v150_1.toInt) → (v150_1.toInt ≤ 11) → ((0 : Int) ≤ v150_3.toInt) → (v150_3.toInt ≤ 1) → I150 n (zi M) v150_1.toInt v150_3.toInt → ZW X (d + 2) 8 false (some .boolean) cX8_isImageOfBoy (zRI N [] M0 (0) (1) (fun v M' => Q v.toInt (zi M'))) (150, [some (.ref 0), some (.int v150_1), some (.int u150_2), some (.int v150_3), some (.int u150_4), some (.int u150_5), some (.int u150_6), o150_7], [], M)) := by
    intro n
    induction n using Nat.strongRecOn with
    | _ n ih =>
      refine ⟨?_, ?_, ?_⟩
      · intro M v120_1 u120_2 v120_3 v120_4 u120_5 v120_6 o120_7 hJ v120_10 v120_11 v120_30 v120_31 v120_40 v120_41 v120_60 v120_61 hI
        have hb : zHd _ := hb120 n (zi M) v120_1.toInt v120_3.toInt v120_4.toInt v120_6.toInt (zi_fr hJ.2) v120_10 v120_11 v120_30 v120_31 v120_40 v120_41 v120_60 v120_61 hI
        refine w_lo dX8_isImageOfBoy_120 rfl rfl rfl rfl ?_
        refine w_ic dX8_isImageOfBoy_122 zi_m1 ?_
        rcases Int.decEq v120_4.toInt (-1 : Int) with h1 | h1
        · skip
          replace hb : zHd _ := hb.1 h1
          refine w_ceq_f dX8_isImageOfBoy_123 (t := 134) rfl (by have := zt_m1; omega) ?_
          refine w_lo dX8_isImageOfBoy_126 rfl rfl rfl rfl ?_
          refine w_ic dX8_isImageOfBoy_128 zi_m1 ?_
          rcases Int.decEq v120_6.toInt (-1 : Int) with h2 | h2
          · skip
            replace hb : zHd _ := hb.1 h2
            refine w_ceq_f dX8_isImageOfBoy_129 (t := 134) rfl (by have := zt_m1; omega) ?_
            refine w_ic dX8_isImageOfBoy_132 zi_0 ?_
            refine w_en dX8_isImageOfBoy_133 rfl ?_
            exact ⟨_, _, rfl, (by have := zt_0; omega), (by have := zt_0; omega), hJ, hb⟩
          · skip
            replace hb : zHd _ := hb.2 h2
            refine w_ceq_t dX8_isImageOfBoy_129 (t := 134) rfl (by have := zt_m1; omega) ?_
            obtain ⟨m, hm, hI⟩ := hb
            exact (ih m hm).2.1 M v120_1 u120_2 v120_3 v120_4 u120_5 v120_6 o120_7 hJ (by omega) (by omega) (by omega) (by omega) (by omega) (by omega) (by omega) (by omega) hI
        · skip
          replace hb : zHd _ := hb.2 h1
          refine w_ceq_t dX8_isImageOfBoy_123 (t := 134) rfl (by have := zt_m1; omega) ?_
          obtain ⟨m, hm, hI⟩ := hb
          exact (ih m hm).2.1 M v120_1 u120_2 v120_3 v120_4 u120_5 v120_6 o120_7 hJ (by omega) (by omega) (by omega) (by omega) (by omega) (by omega) (by omega) (by omega) hI
      · intro M v134_1 u134_2 v134_3 v134_4 u134_5 v134_6 o134_7 hJ v134_10 v134_11 v134_30 v134_31 v134_40 v134_41 v134_60 v134_61 hI
        have hb : zHd _ := hb134 n (zi M) v134_1.toInt v134_3.toInt v134_4.toInt v134_6.toInt (zi_fr hJ.2) v134_10 v134_11 v134_30 v134_31 v134_40 v134_41 v134_60 v134_61 hI
        refine w_lo dX8_isImageOfBoy_134 rfl rfl rfl rfl ?_
        refine w_ic dX8_isImageOfBoy_136 zi_m1 ?_
        rcases Int.decEq v134_4.toInt (-1 : Int) with h3 | h3
        · skip
          replace hb : zHd _ := hb.1 h3
          refine w_cne_t dX8_isImageOfBoy_137 (t := 150) rfl (by have := zt_m1; omega) ?_
          obtain ⟨m, hm, hI⟩ := hb
          exact (ih m hm).2.2 M v134_1 u134_2 v134_3 v134_4 u134_5 v134_6 o134_7 hJ (by omega) (by omega) (by omega) (by omega) hI
        · skip
          replace hb : zHd _ := hb.2 h3
          refine w_cne_f dX8_isImageOfBoy_137 (t := 150) rfl (by have := zt_m1; omega) ?_
          refine w_lo dX8_isImageOfBoy_140 rfl rfl rfl rfl ?_
          refine w_ic dX8_isImageOfBoy_142 zi_m1 ?_
          rcases Int.decEq v134_6.toInt (-1 : Int) with h4 | h4
          · skip
            replace hb : zHd _ := hb.1 h4
            refine w_cne_t dX8_isImageOfBoy_143 (t := 150) rfl (by have := zt_m1; omega) ?_
            obtain ⟨m, hm, hI⟩ := hb
            exact (ih m hm).2.2 M v134_1 u134_2 v134_3 v134_4 u134_5 v134_6 o134_7 hJ (by omega) (by omega) (by omega) (by omega) hI
          · skip
            replace hb : zHd _ := hb.2 h4
            refine w_cne_f dX8_isImageOfBoy_143 (t := 150) rfl (by have := zt_m1; omega) ?_
            refine w_ic dX8_isImageOfBoy_146 zi_1 ?_
            refine w_gt dX8_isImageOfBoy_147 (t := 151) rfl ?_
            refine w_lo (ml' := [some (.ref 0), some (.int v134_1), some (.int u134_2), some (.int v134_3), some (.int v134_4), some (.int u134_5), some (.int v134_6), some (.int 1)]) dX8_isImageOfBoy_151 rfl rfl rfl rfl ?_
            refine w_lo dX8_isImageOfBoy_153 rfl rfl rfl rfl ?_
            refine w_ine_t dX8_isImageOfBoy_155 (t := 174) rfl (by have := zt_1; omega) ?_
            refine w_ic dX8_isImageOfBoy_174 zi_1 ?_
            refine w_gt dX8_isImageOfBoy_175 (t := 179) rfl ?_
            refine w_en dX8_isImageOfBoy_179 rfl ?_
            exact ⟨_, _, rfl, (by have := zt_1; omega), (by have := zt_1; omega), hJ, hb⟩
      · intro M v150_1 u150_2 v150_3 u150_4 u150_5 u150_6 o150_7 hJ v150_10 v150_11 v150_30 v150_31 hI
        have hb : zHd _ := hb150 n (zi M) v150_1.toInt v150_3.toInt (zi_fr hJ.2) v150_10 v150_11 v150_30 v150_31 hI
        refine w_ic dX8_isImageOfBoy_150 zi_0 ?_
        refine w_lo (ml' := [some (.ref 0), some (.int v150_1), some (.int u150_2), some (.int v150_3), some (.int u150_4), some (.int u150_5), some (.int u150_6), some (.int 0)]) dX8_isImageOfBoy_151 rfl rfl rfl rfl ?_
        refine w_lo dX8_isImageOfBoy_153 rfl rfl rfl rfl ?_
        refine w_ine_f dX8_isImageOfBoy_155 (t := 174) rfl (by have := zt_0; omega) ?_
        refine w_lo dX8_isImageOfBoy_158 rfl rfl rfl rfl ?_
        refine w_ic dX8_isImageOfBoy_159 zi_1 ?_
        rcases Int.decEq v150_3.toInt (1 : Int) with h5 | h5
        · skip
          replace hb : zHd _ := hb.1 h5
          refine w_cne_t dX8_isImageOfBoy_160 (t := 178) rfl (by have := zt_1; omega) ?_
          refine w_ic dX8_isImageOfBoy_178 zi_0 ?_
          refine w_en dX8_isImageOfBoy_179 rfl ?_
          exact ⟨_, _, rfl, (by have := zt_0; omega), (by have := zt_0; omega), hJ, hb⟩
        · skip
          replace hb : zHd _ := hb.2 h5
          refine w_cne_f dX8_isImageOfBoy_160 (t := 178) rfl (by have := zt_1; omega) ?_
          refine w_lo dX8_isImageOfBoy_163 rfl rfl rfl rfl ?_
          obtain ⟨b6, f7, h8⟩ := zd_0_3 hJ.1
          have h9 := zDm_b h8
          refine w_gf dX8_isImageOfBoy_164 rfl hJ.1.1 zs_0 f7 ?_
          replace hb : zHd _ := hb b6 (ziR f7) (zDm_or h8)
          refine w_lo dX8_isImageOfBoy_167 rfl rfl rfl rfl ?_
          refine w_iv dX8_isImageOfBoy_168 rfl rfl (As := [.int v150_1]) rfl rfl hJ.1.1 (zs_1_0 h8) (Nat.le_of_ble_eq_true rfl) ?_
          refine ZV.imp (k_260 b6 h8 v150_1 (by omega) (by omega) hN hJ.1) ?_
          rintro _ ⟨x13, M10, rfl, h14, h15, hJ11, hq12⟩
          replace hb : zHd _ := hb x13.toInt h14 h15 (zi M10) (zi_fr hJ11.2)
          have hJ17 := zJ_trans hJ hJ11 zSub_nil
          show ZW _ _ _ _ _ _ _ (171, [some (.ref 0), some (.int v150_1), some (.int u150_2), some (.int v150_3), some (.int u150_4), some (.int u150_5), some (.int u150_6), some (.int 0)], [.int x13], M10)
          rcases Int.decEq x13.toInt (0 : Int) with h18 | h18
          · skip
            replace hb : zHd _ := hb.1 h18
            refine w_ine_t dX8_isImageOfBoy_171 (t := 178) rfl (by omega) ?_
            refine w_ic dX8_isImageOfBoy_178 zi_0 ?_
            refine w_en dX8_isImageOfBoy_179 rfl ?_
            exact ⟨_, _, rfl, (by have := zt_0; omega), (by have := zt_0; omega), hJ17, hb⟩
          · skip
            replace hb : zHd _ := hb.2 h18
            refine w_ine_f dX8_isImageOfBoy_171 (t := 178) rfl (by omega) ?_
            refine w_ic dX8_isImageOfBoy_174 zi_1 ?_
            refine w_gt dX8_isImageOfBoy_175 (t := 179) rfl ?_
            refine w_en dX8_isImageOfBoy_179 rfl ?_
            exact ⟨_, _, rfl, (by have := zt_1; omega), (by have := zt_1; omega), hJ17, hb⟩
  have hb : zHd _ := hbE
  show ZW _ _ _ _ _ _ _ (0, [some (.ref 0), some (.int a0), some (.int a1), none, none, none, none, none], [], M0)
  refine w_lo dX8_isImageOfBoy_0 rfl rfl rfl rfl ?_
  refine w_lo dX8_isImageOfBoy_1 rfl rfl rfl rfl ?_
  refine w_ic dX8_isImageOfBoy_2 zi_1 ?_
  refine w_add dX8_isImageOfBoy_3 (by have := zt_1; omega) ?_
  intro x19 h20
  have := zt_1
  replace hb : zHd _ := hb x19.toInt (by have := zt_1; omega)
  refine w_iv dX8_isImageOfBoy_4 rfl rfl (As := [.int x19]) rfl rfl hJ0.1.1 zs_0 (Nat.le_of_ble_eq_true rfl) ?_
  obtain ⟨P23, hp24, hb⟩ := hb
  replace hb : zHd _ := hb
  refine ZV.imp (u_2092 x19 (by omega) (by omega) hN hJ0.1 hp24) ?_
  rintro _ ⟨x26, M21, rfl, h27, h28, hJ22, hq25⟩
  replace hb : zHd _ := hb x26.toInt h27 h28 (zi M21) (zi_fr hJ22.2) hq25
  have hJ30 := zJ_trans hJ0 hJ22 zSub_nil
  show ZW _ _ _ _ _ _ _ (7, [some (.ref 0), some (.int a0), some (.int a1), none, none, none, none, none], [.int x26], M21)
  refine w_lo (ml' := [some (.ref 0), some (.int a0), some (.int a1), some (.int x26), none, none, none, none]) dX8_isImageOfBoy_7 rfl rfl rfl rfl ?_
  refine w_lo dX8_isImageOfBoy_8 rfl rfl rfl rfl ?_
  refine w_lo dX8_isImageOfBoy_9 rfl rfl rfl rfl ?_
  refine w_ic dX8_isImageOfBoy_10 zi_2 ?_
  refine w_add dX8_isImageOfBoy_11 (by have := zt_2; omega) ?_
  intro x31 h32
  have := zt_2
  replace hb : zHd _ := hb x31.toInt (by have := zt_2; omega)
  refine w_iv dX8_isImageOfBoy_12 rfl rfl (As := [.int x31]) rfl rfl hJ30.1.1 zs_0 (Nat.le_of_ble_eq_true rfl) ?_
  obtain ⟨P35, hp36, hb⟩ := hb
  replace hb : zHd _ := hb
  refine ZV.imp (u_2092 x31 (by omega) (by omega) hN hJ30.1 hp36) ?_
  rintro _ ⟨x38, M33, rfl, h39, h40, hJ34, hq37⟩
  replace hb : zHd _ := hb x38.toInt h39 h40 (zi M33) (zi_fr hJ34.2) hq37
  have hJ42 := zJ_trans hJ30 hJ34 zSub_nil
  show ZW _ _ _ _ _ _ _ (15, [some (.ref 0), some (.int a0), some (.int a1), some (.int x26), none, none, none, none], [.int x38], M33)
  refine w_ic dX8_isImageOfBoy_15 zi_1 ?_
  refine w_sub dX8_isImageOfBoy_16 (by have := zt_1; omega) ?_
  intro x43 h44
  have := zt_1
  replace hb : zHd _ := hb x43.toInt (by have := zt_1; omega)
  refine w_lo (ml' := [some (.ref 0), some (.int a0), some (.int a1), some (.int x26), some (.int x43), none, none, none]) dX8_isImageOfBoy_17 rfl rfl rfl rfl ?_
  refine w_lo dX8_isImageOfBoy_19 rfl rfl rfl rfl ?_
  refine w_lo dX8_isImageOfBoy_20 rfl rfl rfl rfl ?_
  refine w_ic dX8_isImageOfBoy_21 zi_3 ?_
  refine w_add dX8_isImageOfBoy_22 (by have := zt_3; omega) ?_
  intro x45 h46
  have := zt_3
  replace hb : zHd _ := hb x45.toInt (by have := zt_3; omega)
  refine w_iv dX8_isImageOfBoy_23 rfl rfl (As := [.int x45]) rfl rfl hJ42.1.1 zs_0 (Nat.le_of_ble_eq_true rfl) ?_
  obtain ⟨P49, hp50, hb⟩ := hb
  replace hb : zHd _ := hb
  refine ZV.imp (u_2092 x45 (by omega) (by omega) hN hJ42.1 hp50) ?_
  rintro _ ⟨x52, M47, rfl, h53, h54, hJ48, hq51⟩
  replace hb : zHd _ := hb x52.toInt h53 h54 (zi M47) (zi_fr hJ48.2) hq51
  have hJ56 := zJ_trans hJ42 hJ48 zSub_nil
  show ZW _ _ _ _ _ _ _ (26, [some (.ref 0), some (.int a0), some (.int a1), some (.int x26), some (.int x43), none, none, none], [.int x52], M47)
  refine w_lo (ml' := [some (.ref 0), some (.int a0), some (.int a1), some (.int x26), some (.int x43), some (.int x52), none, none]) dX8_isImageOfBoy_26 rfl rfl rfl rfl ?_
  refine w_lo dX8_isImageOfBoy_28 rfl rfl rfl rfl ?_
  refine w_lo dX8_isImageOfBoy_29 rfl rfl rfl rfl ?_
  refine w_ic dX8_isImageOfBoy_30 zi_4 ?_
  refine w_add dX8_isImageOfBoy_31 (by have := zt_4; omega) ?_
  intro x57 h58
  have := zt_4
  replace hb : zHd _ := hb x57.toInt (by have := zt_4; omega)
  refine w_iv dX8_isImageOfBoy_32 rfl rfl (As := [.int x57]) rfl rfl hJ56.1.1 zs_0 (Nat.le_of_ble_eq_true rfl) ?_
  obtain ⟨P61, hp62, hb⟩ := hb
  replace hb : zHd _ := hb
  refine ZV.imp (u_2092 x57 (by omega) (by omega) hN hJ56.1 hp62) ?_
  rintro _ ⟨x64, M59, rfl, h65, h66, hJ60, hq63⟩
  replace hb : zHd _ := hb x64.toInt h65 h66 (zi M59) (zi_fr hJ60.2) hq63
  have hJ68 := zJ_trans hJ56 hJ60 zSub_nil
  show ZW _ _ _ _ _ _ _ (35, [some (.ref 0), some (.int a0), some (.int a1), some (.int x26), some (.int x43), some (.int x52), none, none], [.int x64], M59)
  refine w_ic dX8_isImageOfBoy_35 zi_1 ?_
  refine w_sub dX8_isImageOfBoy_36 (by have := zt_1; omega) ?_
  intro x69 h70
  have := zt_1
  replace hb : zHd _ := hb x69.toInt (by have := zt_1; omega)
  refine w_lo (ml' := [some (.ref 0), some (.int a0), some (.int a1), some (.int x26), some (.int x43), some (.int x52), some (.int x69), none]) dX8_isImageOfBoy_37 rfl rfl rfl rfl ?_
  refine w_lo dX8_isImageOfBoy_39 rfl rfl rfl rfl ?_
  refine w_ic dX8_isImageOfBoy_40 zi_1 ?_
  rcases zcut (1 : Int) x26.toInt with h71 | h71
  · skip
    replace hb : zHd _ := hb.1 h71
    refine w_cgt_t dX8_isImageOfBoy_41 (t := 81) rfl (by have := zt_1; omega) ?_
    refine w_ic dX8_isImageOfBoy_81 zi_0 ?_
    refine w_en dX8_isImageOfBoy_82 rfl ?_
    exact ⟨_, _, rfl, (by have := zt_0; omega), (by have := zt_0; omega), hJ68, hb⟩
  · skip
    replace hb : zHd _ := hb.2 h71
    refine w_cgt_f dX8_isImageOfBoy_41 (t := 81) rfl (by have := zt_1; omega) ?_
    refine w_lo dX8_isImageOfBoy_44 rfl rfl rfl rfl ?_
    refine w_lo dX8_isImageOfBoy_46 rfl rfl rfl rfl ?_
    obtain ⟨b72, f73, h74⟩ := zd_0_3 hJ68.1
    have h75 := zDm_b h74
    refine w_gf dX8_isImageOfBoy_47 rfl hJ68.1.1 zs_0 f73 ?_
    replace hb : zHd _ := hb b72 (ziR f73) (zDm_or h74)
    refine w_gfi dX8_isImageOfBoy_50 rfl hJ68.1 (zs_1_0 h74) (Nat.le_of_ble_eq_true rfl) (zo_1_0_2 h74) ?_
    intro x76 f77 h78 h79
    replace hb : zHd _ := hb x76.toInt (ziE f77) h78 h79
    rcases zcut x43.toInt x76.toInt with h80 | h80
    · skip
      replace hb : zHd _ := hb.1 h80
      refine w_cge_f dX8_isImageOfBoy_53 (t := 81) rfl (by omega) ?_
      refine w_lo dX8_isImageOfBoy_56 rfl rfl rfl rfl ?_
      refine w_lo dX8_isImageOfBoy_58 rfl rfl rfl rfl ?_
      refine w_gf dX8_isImageOfBoy_59 rfl hJ68.1.1 zs_0 f73 ?_
      refine w_gf dX8_isImageOfBoy_62 rfl hJ68.1.1 (zs_1_0 h74) f77 ?_
      rcases zcut x69.toInt x76.toInt with h81 | h81
      · skip
        replace hb : zHd _ := hb.1 h81
        refine w_cge_f dX8_isImageOfBoy_65 (t := 81) rfl (by omega) ?_
        refine w_lo dX8_isImageOfBoy_68 rfl rfl rfl rfl ?_
        refine w_lo dX8_isImageOfBoy_69 rfl rfl rfl rfl ?_
        refine w_ic dX8_isImageOfBoy_70 zi_5 ?_
        refine w_add dX8_isImageOfBoy_71 (by have := zt_5; omega) ?_
        intro x82 h83
        have := zt_5
        replace hb : zHd _ := hb x82.toInt (by have := zt_5; omega)
        refine w_iv dX8_isImageOfBoy_72 rfl rfl (As := [.int x82]) rfl rfl hJ68.1.1 zs_0 (Nat.le_of_ble_eq_true rfl) ?_
        obtain ⟨P86, hp87, hb⟩ := hb
        replace hb : zHd _ := hb
        refine ZV.imp (u_2091 x82 (by omega) (by omega) hN hJ68.1 hp87) ?_
        rintro _ ⟨x89, M84, rfl, h90, h91, hJ85, hq88⟩
        replace hb : zHd _ := hb x89.toInt h90 h91 (zi M84) (zi_fr hJ85.2) hq88
        have hJ93 := zJ_trans hJ68 hJ85 zSub_nil
        show ZW _ _ _ _ _ _ _ (75, [some (.ref 0), some (.int a0), some (.int a1), some (.int x26), some (.int x43), some (.int x52), some (.int x69), none], [.int x89], M84)
        refine w_si dX8_isImageOfBoy_75 (c := 9999) (by decide) ?_
        rcases zcut (9999 : Int) x89.toInt with h94 | h94
        · skip
          replace hb : zHd _ := hb.1 h94
          refine w_cle_f dX8_isImageOfBoy_78 (t := 83) rfl (by have := zt_9999; omega) ?_
          refine w_ic dX8_isImageOfBoy_81 zi_0 ?_
          refine w_en dX8_isImageOfBoy_82 rfl ?_
          exact ⟨_, _, rfl, (by have := zt_0; omega), (by have := zt_0; omega), hJ93, hb⟩
        · skip
          replace hb : zHd _ := hb.2 h94
          refine w_cle_t dX8_isImageOfBoy_78 (t := 83) rfl (by have := zt_9999; omega) ?_
          refine w_lo dX8_isImageOfBoy_83 rfl rfl rfl rfl ?_
          refine w_ic dX8_isImageOfBoy_85 zi_m1 ?_
          rcases Int.decEq x43.toInt (-1 : Int) with h95 | h95
          · skip
            replace hb : zHd _ := hb.1 h95
            refine w_cne_t dX8_isImageOfBoy_86 (t := 97) rfl (by have := zt_m1; omega) ?_
            refine w_lo dX8_isImageOfBoy_97 rfl rfl rfl rfl ?_
            refine w_ic dX8_isImageOfBoy_99 zi_1 ?_
            rcases zcut x52.toInt (1 : Int) with h96 | h96
            · skip
              replace hb : zHd _ := hb.1 h96
              refine w_clt_t dX8_isImageOfBoy_100 (t := 118) rfl (by have := zt_1; omega) ?_
              refine w_ic dX8_isImageOfBoy_118 zi_0 ?_
              refine w_en dX8_isImageOfBoy_119 rfl ?_
              exact ⟨_, _, rfl, (by have := zt_0; omega), (by have := zt_0; omega), hJ93, hb⟩
            · skip
              replace hb : zHd _ := hb.2 h96
              refine w_clt_f dX8_isImageOfBoy_100 (t := 118) rfl (by have := zt_1; omega) ?_
              refine w_lo dX8_isImageOfBoy_103 rfl rfl rfl rfl ?_
              refine w_lo dX8_isImageOfBoy_105 rfl rfl rfl rfl ?_
              have f97 := (hJ85.2 (0) 3 zNI_nil).trans (f73)
              refine w_gf dX8_isImageOfBoy_106 rfl hJ93.1.1 zs_0 f97 ?_
              refine w_gf dX8_isImageOfBoy_109 rfl hJ93.1.1 (zs_1_0 h74) (zr_1_0_11 h74 hJ93.1) ?_
              refine w_lo dX8_isImageOfBoy_112 rfl rfl rfl rfl ?_
              refine w_iai dX8_isImageOfBoy_114 hJ93.1 (zs_1_9 h74) (by omega) (by omega) (zu_1_9 h74) ?_
              intro x101 f98 h99 h100
              replace hb : zHd _ := hb x101.toInt (ziEk f98 rfl)
              rcases zcut x101.toInt x52.toInt with h102 | h102
              · skip
                replace hb : zHd _ := hb.1 h102
                refine w_cle_f dX8_isImageOfBoy_115 (t := 120) rfl (by omega) ?_
                refine w_ic dX8_isImageOfBoy_118 zi_0 ?_
                refine w_en dX8_isImageOfBoy_119 rfl ?_
                exact ⟨_, _, rfl, (by have := zt_0; omega), (by have := zt_0; omega), hJ93, hb⟩
              · skip
                replace hb : zHd _ := hb.2 h102
                refine w_cle_t dX8_isImageOfBoy_115 (t := 120) rfl (by omega) ?_
                obtain ⟨m, hI⟩ := hb
                exact (main m).1 M84 a0 a1 x26 x43 x52 x69 none hJ93 (by omega) (by omega) (by omega) (by omega) (by omega) (by omega) (by omega) (by omega) hI
          · skip
            replace hb : zHd _ := hb.2 h95
            refine w_cne_f dX8_isImageOfBoy_86 (t := 97) rfl (by have := zt_m1; omega) ?_
            refine w_lo dX8_isImageOfBoy_89 rfl rfl rfl rfl ?_
            rcases Int.decEq x52.toInt (0 : Int) with h103 | h103
            · skip
              replace hb : zHd _ := hb.1 h103
              refine w_ieq_f dX8_isImageOfBoy_91 (t := 120) rfl (by omega) ?_
              refine w_gt dX8_isImageOfBoy_94 (t := 118) rfl ?_
              refine w_ic dX8_isImageOfBoy_118 zi_0 ?_
              refine w_en dX8_isImageOfBoy_119 rfl ?_
              exact ⟨_, _, rfl, (by have := zt_0; omega), (by have := zt_0; omega), hJ93, hb⟩
            · skip
              replace hb : zHd _ := hb.2 h103
              refine w_ieq_t dX8_isImageOfBoy_91 (t := 120) rfl (by omega) ?_
              obtain ⟨m, hI⟩ := hb
              exact (main m).1 M84 a0 a1 x26 x43 x52 x69 none hJ93 (by omega) (by omega) (by omega) (by omega) (by omega) (by omega) (by omega) (by omega) hI
      · skip
        replace hb : zHd _ := hb.2 h81
        refine w_cge_t dX8_isImageOfBoy_65 (t := 81) rfl (by omega) ?_
        refine w_ic dX8_isImageOfBoy_81 zi_0 ?_
        refine w_en dX8_isImageOfBoy_82 rfl ?_
        exact ⟨_, _, rfl, (by have := zt_0; omega), (by have := zt_0; omega), hJ68, hb⟩
    · skip
      replace hb : zHd _ := hb.2 h80
      refine w_cge_t dX8_isImageOfBoy_53 (t := 81) rfl (by omega) ?_
      refine w_ic dX8_isImageOfBoy_81 zi_0 ?_
      refine w_en dX8_isImageOfBoy_82 rfl ?_
      exact ⟨_, _, rfl, (by have := zt_0; omega), (by have := zt_0; omega), hJ68, hb⟩
