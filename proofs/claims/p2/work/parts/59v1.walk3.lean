/-! walks of the class by pure conditions (wip/safe/vcp.py) -/
set_option maxRecDepth 100000 in
theorem u_1 {X : List Int32} {d N : Nat} {M0 : zM}  (hN : N ≤ 600) (hB0 : zB N M0) {Q : zF → Prop} (hb : b_1 (zi M0) Q) : ZV X (d + 1) 1 [.ref 77] M0 (zRV N [(77, 78, 0)] M0 (fun M' => Q (zi M'))) := by
  have hJ0 : zJ N [(77, 78, 0)] M0 M0 := zJ_refl hB0
  refine ZV.of (ini := false) rfl (Nat.le_of_ble_eq_true rfl) (by decide +kernel) ?_
  unfold b_1 at hb
  replace hb : zHd _ := hb
  show ZW _ _ _ _ _ _ _ (0, [some (.ref 77)], [], M0)
  refine w_lo dX0_forget_0 rfl rfl rfl rfl ?_
  refine w_ic dX0_forget_1 zi_0 ?_
  refine w_pfi dX0_forget_2 rfl hJ0 zs_77 (Nat.le_of_ble_eq_true rfl) zo_77_0 (by have := zt_0; omega) (by have := zt_0; omega) (zIR_k (by omega) (by omega)) rfl rfl rfl ?_
  intro M1 hJ2 f3 hn4
  replace hb : zHd _ := hb (zi M1) (zi_zup hn4 f3 rfl zt_0)
  refine w_en dX0_forget_5 rfl ?_
  exact ⟨_, rfl, hJ2, hb⟩
set_option maxRecDepth 100000 in
theorem u_1542 {X : List Int32} {d N : Nat} {M0 : zM} (t : Nat) (ht : zRp t) (p0 : Nat) (hp0 : zRp p0) (hN : N ≤ 600) (hB0 : zB N M0) {Q : zF → Prop} (hb : b_1542 t p0 (zi M0) Q) : ZV X (d + 2) 1542 [.ref t, .ref p0] M0 (zRV N [(t, t + 1, 0), (t, t + 1, 1), (t + 1, t + 14, 1000), (t, t + 1, 14)] M0 (fun M' => Q (zi M'))) := by
  have hbp0 := zRp_b hp0
  have hbt := zRp_b ht
  have hJ0 : zJ N [(t, t + 1, 0), (t, t + 1, 1), (t + 1, t + 14, 1000), (t, t + 1, 14)] M0 M0 := zJ_refl hB0
  refine ZV.of (ini := false) rfl (Nat.le_of_ble_eq_true rfl) (by decide +kernel) ?_
  unfold b_1542 at hb
  replace hb : zHd _ := hb
  show ZW _ _ _ _ _ _ _ (0, [some (.ref t), some (.ref p0)], [], M0)
  refine w_lo dX6_take_0 rfl rfl rfl rfl ?_
  refine w_lo dX6_take_1 rfl rfl rfl rfl ?_
  refine w_gfi dX6_take_2 rfl hJ0.1 (zs_6_0 hp0) (Nat.le_of_ble_eq_true rfl) (zo_6_0_0 hp0) ?_
  intro x1 f2 h3 h4
  replace hb : zHd _ := hb x1.toInt (ziE f2) h3 h4
  refine w_pfi dX6_take_5 rfl hJ0 (zs_6_0 ht) (Nat.le_of_ble_eq_true rfl) (zo_6_0_0 ht) (by omega) (by omega) (zIR_k (by omega) (by omega)) rfl rfl rfl ?_
  intro M5 hJ6 f7 hn8
  replace hb : zHd _ := hb (zi M5) (zi_zup hn8 f7 rfl rfl)
  refine w_lo dX6_take_8 rfl rfl rfl rfl ?_
  refine w_lo dX6_take_9 rfl rfl rfl rfl ?_
  refine w_gfi dX6_take_10 rfl hJ6.1 (zs_6_0 hp0) (Nat.le_of_ble_eq_true rfl) (zo_6_0_1 hp0) ?_
  intro x10 f11 h12 h13
  replace hb : zHd _ := hb x10.toInt (ziE f11)
  refine w_pfi dX6_take_13 rfl hJ6 (zs_6_0 ht) (Nat.le_of_ble_eq_true rfl) (zo_6_0_1 ht) (zbot _) (ztop _) (zIR_s (zIR_k (by omega) (by omega))) rfl rfl rfl ?_
  intro M14 hJ15 f16 hn17
  replace hb : zHd _ := hb (zi M14) (zi_zup hn17 f16 rfl rfl)
  refine w_lo dX6_take_16 rfl rfl rfl rfl ?_
  refine w_lo dX6_take_17 rfl rfl rfl rfl ?_
  refine w_gfc dX6_take_18 rfl hJ15.1 (zs_6_0 hp0) (Nat.le_of_ble_eq_true rfl) (zo_6_0_14 hp0) ?_
  intro x19 f20 h21 h22
  replace hb : zHd _ := hb x19.toInt (ziE f20) h21
  refine w_pfc dX6_take_21 rfl hJ15 (zs_6_0 ht) (Nat.le_of_ble_eq_true rfl) (zo_6_0_14 ht) (by omega) (by omega) (zIR_s (zIR_s (zIR_s (zIR_k (by omega) (by omega))))) rfl rfl rfl ?_
  intro M23 hJ24 f25 hn26
  replace hb : zHd _ := hb (zi M23) (zi_zup hn26 f25 rfl rfl)
  refine w_lo dX6_take_24 rfl rfl rfl rfl ?_
  refine w_gf dX6_take_25 rfl hJ24.1.1 (zs_6_0 hp0) (zr_6_0_2 hp0 hJ24.1) ?_
  refine w_ic dX6_take_28 zi_0 ?_
  refine w_lo dX6_take_29 rfl rfl rfl rfl ?_
  refine w_gf dX6_take_30 rfl hJ24.1.1 (zs_6_0 ht) (zr_6_0_2 ht hJ24.1) ?_
  refine w_ic dX6_take_33 zi_0 ?_
  refine w_bi dX6_take_34 (c := 12) (by decide) ?_
  refine w_cpG (kd := 10) (Or.inl rfl) dX6_take_36 rfl (Nat.le_of_ble_eq_true rfl) hJ24 (zs_6_1 hp0) (zs_6_1 ht) zt_12 (Nat.le_of_ble_eq_true rfl) (Nat.le_of_ble_eq_true rfl) (zu_6_1 hp0) (zu_6_1 ht) (by decide) (by decide) (fun _ => (zIR_s (zIR_s (zIR_a (by omega) (by omega))))) ?_
  intro M28 hJ29 hn30
  replace hb : zHd _ := hb (zi M28) (fun a k h => zi_vl (hn30 a k (Or.inl (Ne.symm h))))
  show ZW _ _ _ _ _ _ _ (39, [some (.ref t), some (.ref p0)], [], M28)
  refine w_lo dX6_take_39 rfl rfl rfl rfl ?_
  refine w_gf dX6_take_40 rfl hJ29.1.1 (zs_6_0 hp0) (zr_6_0_3 hp0 hJ29.1) ?_
  refine w_ic dX6_take_43 zi_0 ?_
  refine w_lo dX6_take_44 rfl rfl rfl rfl ?_
  refine w_gf dX6_take_45 rfl hJ29.1.1 (zs_6_0 ht) (zr_6_0_3 ht hJ29.1) ?_
  refine w_ic dX6_take_48 zi_0 ?_
  refine w_bi dX6_take_49 (c := 12) (by decide) ?_
  refine w_cpG (kd := 12) (Or.inr ⟨rfl, rfl, rfl⟩) dX6_take_51 rfl (Nat.le_of_ble_eq_true rfl) hJ29 (zs_6_2 hp0) (zs_6_2 ht) zt_12 (Nat.le_of_ble_eq_true rfl) (Nat.le_of_ble_eq_true rfl) (zu_6_2 hp0) (zu_6_2 ht) (by decide) (by decide) (fun _ => (zIR_s (zIR_s (zIR_a (by omega) (by omega))))) ?_
  intro M32 hJ33 hn34
  replace hb : zHd _ := hb (zi M32) (fun a k h => zi_vl (hn34 a k (Or.inl (Ne.symm h))))
  show ZW _ _ _ _ _ _ _ (54, [some (.ref t), some (.ref p0)], [], M32)
  refine w_lo dX6_take_54 rfl rfl rfl rfl ?_
  refine w_gf dX6_take_55 rfl hJ33.1.1 (zs_6_0 hp0) (zr_6_0_4 hp0 hJ33.1) ?_
  refine w_ic dX6_take_58 zi_0 ?_
  refine w_lo dX6_take_59 rfl rfl rfl rfl ?_
  refine w_gf dX6_take_60 rfl hJ33.1.1 (zs_6_0 ht) (zr_6_0_4 ht hJ33.1) ?_
  refine w_ic dX6_take_63 zi_0 ?_
  refine w_bi dX6_take_64 (c := 12) (by decide) ?_
  refine w_cpG (kd := 10) (Or.inl rfl) dX6_take_66 rfl (Nat.le_of_ble_eq_true rfl) hJ33 (zs_6_3 hp0) (zs_6_3 ht) zt_12 (Nat.le_of_ble_eq_true rfl) (Nat.le_of_ble_eq_true rfl) (zu_6_3 hp0) (zu_6_3 ht) (by decide) (by decide) (fun _ => (zIR_s (zIR_s (zIR_a (by omega) (by omega))))) ?_
  intro M36 hJ37 hn38
  replace hb : zHd _ := hb (zi M36) (fun a k h => zi_vl (hn38 a k (Or.inl (Ne.symm h))))
  show ZW _ _ _ _ _ _ _ (69, [some (.ref t), some (.ref p0)], [], M36)
  refine w_lo dX6_take_69 rfl rfl rfl rfl ?_
  refine w_gf dX6_take_70 rfl hJ37.1.1 (zs_6_0 hp0) (zr_6_0_5 hp0 hJ37.1) ?_
  refine w_ic dX6_take_73 zi_0 ?_
  refine w_lo dX6_take_74 rfl rfl rfl rfl ?_
  refine w_gf dX6_take_75 rfl hJ37.1.1 (zs_6_0 ht) (zr_6_0_5 ht hJ37.1) ?_
  refine w_ic dX6_take_78 zi_0 ?_
  refine w_bi dX6_take_79 (c := 12) (by decide) ?_
  refine w_cpG (kd := 10) (Or.inl rfl) dX6_take_81 rfl (Nat.le_of_ble_eq_true rfl) hJ37 (zs_6_4 hp0) (zs_6_4 ht) zt_12 (Nat.le_of_ble_eq_true rfl) (Nat.le_of_ble_eq_true rfl) (zu_6_4 hp0) (zu_6_4 ht) (by decide) (by decide) (fun _ => (zIR_s (zIR_s (zIR_a (by omega) (by omega))))) ?_
  intro M40 hJ41 hn42
  replace hb : zHd _ := hb (zi M40) (fun a k h => zi_vl (hn42 a k (Or.inl (Ne.symm h))))
  show ZW _ _ _ _ _ _ _ (84, [some (.ref t), some (.ref p0)], [], M40)
  refine w_lo dX6_take_84 rfl rfl rfl rfl ?_
  refine w_gf dX6_take_85 rfl hJ41.1.1 (zs_6_0 hp0) (zr_6_0_6 hp0 hJ41.1) ?_
  refine w_ic dX6_take_88 zi_0 ?_
  refine w_lo dX6_take_89 rfl rfl rfl rfl ?_
  refine w_gf dX6_take_90 rfl hJ41.1.1 (zs_6_0 ht) (zr_6_0_6 ht hJ41.1) ?_
  refine w_ic dX6_take_93 zi_0 ?_
  refine w_bi dX6_take_94 (c := 12) (by decide) ?_
  refine w_cpG (kd := 10) (Or.inl rfl) dX6_take_96 rfl (Nat.le_of_ble_eq_true rfl) hJ41 (zs_6_5 hp0) (zs_6_5 ht) zt_12 (Nat.le_of_ble_eq_true rfl) (Nat.le_of_ble_eq_true rfl) (zu_6_5 hp0) (zu_6_5 ht) (by decide) (by decide) (fun _ => (zIR_s (zIR_s (zIR_a (by omega) (by omega))))) ?_
  intro M44 hJ45 hn46
  replace hb : zHd _ := hb (zi M44) (fun a k h => zi_vl (hn46 a k (Or.inl (Ne.symm h))))
  show ZW _ _ _ _ _ _ _ (99, [some (.ref t), some (.ref p0)], [], M44)
  refine w_lo dX6_take_99 rfl rfl rfl rfl ?_
  refine w_gf dX6_take_100 rfl hJ45.1.1 (zs_6_0 hp0) (zr_6_0_7 hp0 hJ45.1) ?_
  refine w_ic dX6_take_103 zi_0 ?_
  refine w_lo dX6_take_104 rfl rfl rfl rfl ?_
  refine w_gf dX6_take_105 rfl hJ45.1.1 (zs_6_0 ht) (zr_6_0_7 ht hJ45.1) ?_
  refine w_ic dX6_take_108 zi_0 ?_
  refine w_bi dX6_take_109 (c := 12) (by decide) ?_
  refine w_cpG (kd := 10) (Or.inl rfl) dX6_take_111 rfl (Nat.le_of_ble_eq_true rfl) hJ45 (zs_6_6 hp0) (zs_6_6 ht) zt_12 (Nat.le_of_ble_eq_true rfl) (Nat.le_of_ble_eq_true rfl) (zu_6_6 hp0) (zu_6_6 ht) (by decide) (by decide) (fun _ => (zIR_s (zIR_s (zIR_a (by omega) (by omega))))) ?_
  intro M48 hJ49 hn50
  replace hb : zHd _ := hb (zi M48) (fun a k h => zi_vl (hn50 a k (Or.inl (Ne.symm h))))
  show ZW _ _ _ _ _ _ _ (114, [some (.ref t), some (.ref p0)], [], M48)
  refine w_lo dX6_take_114 rfl rfl rfl rfl ?_
  refine w_gf dX6_take_115 rfl hJ49.1.1 (zs_6_0 hp0) (zr_6_0_8 hp0 hJ49.1) ?_
  refine w_ic dX6_take_118 zi_0 ?_
  refine w_lo dX6_take_119 rfl rfl rfl rfl ?_
  refine w_gf dX6_take_120 rfl hJ49.1.1 (zs_6_0 ht) (zr_6_0_8 ht hJ49.1) ?_
  refine w_ic dX6_take_123 zi_0 ?_
  refine w_bi dX6_take_124 (c := 12) (by decide) ?_
  refine w_cpG (kd := 10) (Or.inl rfl) dX6_take_126 rfl (Nat.le_of_ble_eq_true rfl) hJ49 (zs_6_7 hp0) (zs_6_7 ht) zt_12 (Nat.le_of_ble_eq_true rfl) (Nat.le_of_ble_eq_true rfl) (zu_6_7 hp0) (zu_6_7 ht) (by decide) (by decide) (fun _ => (zIR_s (zIR_s (zIR_a (by omega) (by omega))))) ?_
  intro M52 hJ53 hn54
  replace hb : zHd _ := hb (zi M52) (fun a k h => zi_vl (hn54 a k (Or.inl (Ne.symm h))))
  show ZW _ _ _ _ _ _ _ (129, [some (.ref t), some (.ref p0)], [], M52)
  refine w_lo dX6_take_129 rfl rfl rfl rfl ?_
  refine w_gf dX6_take_130 rfl hJ53.1.1 (zs_6_0 hp0) (zr_6_0_9 hp0 hJ53.1) ?_
  refine w_ic dX6_take_133 zi_0 ?_
  refine w_lo dX6_take_134 rfl rfl rfl rfl ?_
  refine w_gf dX6_take_135 rfl hJ53.1.1 (zs_6_0 ht) (zr_6_0_9 ht hJ53.1) ?_
  refine w_ic dX6_take_138 zi_0 ?_
  refine w_bi dX6_take_139 (c := 12) (by decide) ?_
  refine w_cpG (kd := 10) (Or.inl rfl) dX6_take_141 rfl (Nat.le_of_ble_eq_true rfl) hJ53 (zs_6_8 hp0) (zs_6_8 ht) zt_12 (Nat.le_of_ble_eq_true rfl) (Nat.le_of_ble_eq_true rfl) (zu_6_8 hp0) (zu_6_8 ht) (by decide) (by decide) (fun _ => (zIR_s (zIR_s (zIR_a (by omega) (by omega))))) ?_
  intro M56 hJ57 hn58
  replace hb : zHd _ := hb (zi M56) (fun a k h => zi_vl (hn58 a k (Or.inl (Ne.symm h))))
  show ZW _ _ _ _ _ _ _ (144, [some (.ref t), some (.ref p0)], [], M56)
  refine w_lo dX6_take_144 rfl rfl rfl rfl ?_
  refine w_gf dX6_take_145 rfl hJ57.1.1 (zs_6_0 hp0) (zr_6_0_10 hp0 hJ57.1) ?_
  refine w_ic dX6_take_148 zi_0 ?_
  refine w_lo dX6_take_149 rfl rfl rfl rfl ?_
  refine w_gf dX6_take_150 rfl hJ57.1.1 (zs_6_0 ht) (zr_6_0_10 ht hJ57.1) ?_
  refine w_ic dX6_take_153 zi_0 ?_
  refine w_bi dX6_take_154 (c := 12) (by decide) ?_
  refine w_cpG (kd := 10) (Or.inl rfl) dX6_take_156 rfl (Nat.le_of_ble_eq_true rfl) hJ57 (zs_6_9 hp0) (zs_6_9 ht) zt_12 (Nat.le_of_ble_eq_true rfl) (Nat.le_of_ble_eq_true rfl) (zu_6_9 hp0) (zu_6_9 ht) (by decide) (by decide) (fun _ => (zIR_s (zIR_s (zIR_a (by omega) (by omega))))) ?_
  intro M60 hJ61 hn62
  replace hb : zHd _ := hb (zi M60) (fun a k h => zi_vl (hn62 a k (Or.inl (Ne.symm h))))
  show ZW _ _ _ _ _ _ _ (159, [some (.ref t), some (.ref p0)], [], M60)
  refine w_lo dX6_take_159 rfl rfl rfl rfl ?_
  refine w_gf dX6_take_160 rfl hJ61.1.1 (zs_6_0 hp0) (zr_6_0_11 hp0 hJ61.1) ?_
  refine w_ic dX6_take_163 zi_0 ?_
  refine w_lo dX6_take_164 rfl rfl rfl rfl ?_
  refine w_gf dX6_take_165 rfl hJ61.1.1 (zs_6_0 ht) (zr_6_0_11 ht hJ61.1) ?_
  refine w_ic dX6_take_168 zi_0 ?_
  refine w_bi dX6_take_169 (c := 12) (by decide) ?_
  refine w_cpG (kd := 10) (Or.inl rfl) dX6_take_171 rfl (Nat.le_of_ble_eq_true rfl) hJ61 (zs_6_10 hp0) (zs_6_10 ht) zt_12 (Nat.le_of_ble_eq_true rfl) (Nat.le_of_ble_eq_true rfl) (zu_6_10 hp0) (zu_6_10 ht) (by decide) (by decide) (fun _ => (zIR_s (zIR_s (zIR_a (by omega) (by omega))))) ?_
  intro M64 hJ65 hn66
  replace hb : zHd _ := hb (zi M64) (fun a k h => zi_vl (hn66 a k (Or.inl (Ne.symm h))))
  show ZW _ _ _ _ _ _ _ (174, [some (.ref t), some (.ref p0)], [], M64)
  refine w_lo dX6_take_174 rfl rfl rfl rfl ?_
  refine w_lo dX6_take_175 rfl rfl rfl rfl ?_
  refine w_iv dX6_take_176 rfl rfl (As := [.ref p0]) rfl rfl hJ65.1.1 (zs_6_0 ht) (Nat.le_of_ble_eq_true rfl) ?_
  refine ZV.imp (k_1543 t ht p0 hp0 hN hJ65.1) ?_
  rintro _ ⟨M68, rfl, hJ69, hq70⟩
  replace hb : zHd _ := hb  (zi M68) (zi_fr hJ69.2)
  have hJ72 := zJ_trans hJ65 hJ69 (zSub_cons (fun _ _ h h' hk => zIR_s (zIR_s (zIR_a (by omega) (by omega)))) zSub_nil)
  show ZW _ _ _ _ _ _ _ (179, [some (.ref t), some (.ref p0)], [], M68)
  refine w_lo dX6_take_179 rfl rfl rfl rfl ?_
  refine w_gf dX6_take_180 rfl hJ72.1.1 (zs_6_0 hp0) (zr_6_0_15 hp0 hJ72.1) ?_
  refine w_ic dX6_take_183 zi_0 ?_
  refine w_lo dX6_take_184 rfl rfl rfl rfl ?_
  refine w_gf dX6_take_185 rfl hJ72.1.1 (zs_6_0 ht) (zr_6_0_15 ht hJ72.1) ?_
  refine w_ic dX6_take_188 zi_0 ?_
  refine w_si dX6_take_189 (c := 200) (by decide) ?_
  refine w_cpG (kd := 10) (Or.inl rfl) dX6_take_192 rfl (Nat.le_of_ble_eq_true rfl) hJ72 (zs_6_13 hp0) (zs_6_13 ht) zt_200 (Nat.le_of_ble_eq_true rfl) (Nat.le_of_ble_eq_true rfl) (zu_6_13 hp0) (zu_6_13 ht) (by decide) (by decide) (fun _ => (zIR_s (zIR_s (zIR_a (by omega) (by omega))))) ?_
  intro M73 hJ74 hn75
  replace hb : zHd _ := hb (zi M73) (fun a k h => zi_vl (hn75 a k (Or.inl (Ne.symm h))))
  show ZW _ _ _ _ _ _ _ (195, [some (.ref t), some (.ref p0)], [], M73)
  refine w_en dX6_take_195 rfl ?_
  exact ⟨_, rfl, hJ74, hb⟩
set_option maxRecDepth 100000 in
theorem u_2 {X : List Int32} {d N : Nat} {M0 : zM} (p0 : Nat) (hp0 : zRp p0) (hN : N ≤ 600) (hB0 : zB N M0) {Q : zF → Prop} (hb : b_2 p0 (zi M0) Q) : ZV X (d + 3) 2 [.ref 77, .ref p0] M0 (zRV N [(77, 78, 0), (79, 346, 0), (77, 78, 1), (79, 346, 1), (80, 359, 1000), (79, 346, 14)] M0 (fun M' => Q (zi M'))) := by
  have hbp0 := zRp_b hp0
  have hJ0 : zJ N [(77, 78, 0), (79, 346, 0), (77, 78, 1), (79, 346, 1), (80, 359, 1000), (79, 346, 14)] M0 M0 := zJ_refl hB0
  refine ZV.of (ini := false) rfl (Nat.le_of_ble_eq_true rfl) (by decide +kernel) ?_
  obtain ⟨I19, hbE, hb19⟩ := hb
  replace hbE : zHd _ := hbE
  replace hb19 : zHd _ := hb19
  have main : ∀ n : Nat,
      (∀ (M : zM) (o19_1 : Option Value) (o19_2 : Option Value), zJ N [(77, 78, 0), (79, 346, 0), (77, 78, 1), (79, 346, 1), (80, 359, 1000), (79, 346, 14)] M0 M → I19 n (zi M)  → ZW X (d + 2) 0 false none cX0_keep (zRV N [(77, 78, 0), (79, 346, 0), (77, 78, 1), (79, 346, 1), (80, 359, 1000), (79, 346, 14)] M0 (fun M' => Q (zi M'))) (19, [some (.ref 77), o19_1, o19_2], [], M)) := by
    intro n
    induction n using Nat.strongRecOn with
    | _ n ih =>
      · intro M o19_1 o19_2 hJ hI
        have hb : zHd _ := hb19 n (zi M)  (zi_fr hJ.2)  hI
        refine w_lo dX0_keep_19 rfl rfl rfl rfl ?_
        refine w_lo dX0_keep_20 rfl rfl rfl rfl ?_
        refine w_gfi dX0_keep_21 rfl hJ.1 zs_77 (Nat.le_of_ble_eq_true rfl) zo_77_1 ?_
        intro x1 f2 h3 h4
        replace hb : zHd _ := hb x1.toInt (ziE f2) h3 h4
        refine w_ic dX0_keep_24 zi_1 ?_
        refine w_add dX0_keep_25 (by have := zt_1; omega) ?_
        intro x5 h6
        have := zt_1
        replace hb : zHd _ := hb x5.toInt (by have := zt_1; omega)
        refine w_bi dX0_keep_26 (c := 20) (by decide) ?_
        refine w_remE dX0_keep_28 (by omega) (by have := zt_20; omega) ?_
        intro x7 h8 h9 h10
        have := zt_20
        replace hb : zHd _ := hb x7.toInt h8 (by omega) (by rw [h10, zt_20])
        refine w_pfi dX0_keep_29 rfl hJ zs_77 (Nat.le_of_ble_eq_true rfl) zo_77_1 (by omega) (by omega) (zIR_s (zIR_s (zIR_k (by omega) (by omega)))) rfl rfl rfl ?_
        intro M11 hJ12 f13 hn14
        replace hb : zHd _ := hb (zi M11) (zi_zup hn14 f13 rfl rfl)
        refine w_lo dX0_keep_32 rfl rfl rfl rfl ?_
        refine w_bi dX0_keep_33 (c := 20) (by decide) ?_
        refine w_lo dX0_keep_35 rfl rfl rfl rfl ?_
        refine w_gfi dX0_keep_36 rfl hJ12.1 zs_77 (Nat.le_of_ble_eq_true rfl) zo_77_0 ?_
        intro x16 f17 h18 h19
        replace hb : zHd _ := hb x16.toInt (ziE f17) h18 h19
        refine w_ic dX0_keep_39 zi_1 ?_
        refine w_add dX0_keep_40 (by have := zt_1; omega) ?_
        intro x20 h21
        have := zt_1
        replace hb : zHd _ := hb x20.toInt (by have := zt_1; omega)
        refine w_mnI dX0_keep_41 rfl (Nat.le_of_ble_eq_true rfl) ?_
        intro x22 h23 h24 h25
        have := zt_20
        replace hb : zHd _ := hb x22.toInt (by omega) (by omega) (by omega)
        show ZW _ _ _ _ _ _ _ (44, [some (.ref 77), o19_1, o19_2], [.int x22, .ref 77], M11)
        refine w_pfi dX0_keep_44 rfl hJ12 zs_77 (Nat.le_of_ble_eq_true rfl) zo_77_0 (by omega) (by omega) (zIR_k (by omega) (by omega)) rfl rfl rfl ?_
        intro M26 hJ27 f28 hn29
        replace hb : zHd _ := hb (zi M26) (zi_zup hn29 f28 rfl rfl)
        refine w_en dX0_keep_47 rfl ?_
        exact ⟨_, rfl, hJ27, hb⟩
  have hb : zHd _ := hbE
  show ZW _ _ _ _ _ _ _ (0, [some (.ref 77), some (.ref p0), none], [], M0)
  refine w_lo dX0_keep_0 rfl rfl rfl rfl ?_
  refine w_gf dX0_keep_1 rfl hJ0.1.1 zs_77 (zr_77_2 hJ0.1) ?_
  refine w_lo dX0_keep_4 rfl rfl rfl rfl ?_
  refine w_gfi dX0_keep_5 rfl hJ0.1 zs_77 (Nat.le_of_ble_eq_true rfl) zo_77_1 ?_
  intro x31 f32 h33 h34
  replace hb : zHd _ := hb x31.toInt (ziE f32) h33 h34
  refine w_aai dX0_keep_8 hJ0.1 (by omega) (by omega) ?_
  intro b35 h36 h38 h37
  replace hb : zHd _ := hb b35 (ziRk h37 rfl) (by exact zaai hJ0.1 h37 (by omega) (by omega))
  refine w_lo (ml' := [some (.ref 77), some (.ref p0), some (.ref b35)]) dX0_keep_9 rfl rfl rfl rfl ?_
  refine w_lo dX0_keep_10 rfl rfl rfl rfl ?_
  refine w_br dX0_keep_11 (pc' := 14) rfl rfl rfl ?_
  refine w_lo dX0_keep_14 rfl rfl rfl rfl ?_
  refine w_lo dX0_keep_15 rfl rfl rfl rfl ?_
  refine w_iv dX0_keep_16 rfl rfl (As := [.ref p0]) rfl rfl hJ0.1.1 (zs_6_0 h36) (Nat.le_of_ble_eq_true rfl) ?_
  obtain ⟨P41, hp42, hb⟩ := hb
  replace hb : zHd _ := hb
  refine ZV.imp (u_1542 b35 h36 p0 hp0 hN hJ0.1 hp42) ?_
  rintro _ ⟨M39, rfl, hJ40, hq43⟩
  replace hb : zHd _ := hb  (zi M39) (zi_fr hJ40.2) hq43
  have hJ45 := zJ_trans hJ0 hJ40 (zSub_cons (fun _ _ h h' hk => zIR_s (zIR_e (by omega) (by omega) hk)) (zSub_cons (fun _ _ h h' hk => zIR_s (zIR_s (zIR_s (zIR_e (by omega) (by omega) hk)))) (zSub_cons (fun _ _ h h' hk => zIR_s (zIR_s (zIR_s (zIR_s (zIR_a (by omega) (by omega)))))) (zSub_cons (fun _ _ h h' hk => zIR_s (zIR_s (zIR_s (zIR_s (zIR_s (zIR_e (by omega) (by omega) hk)))))) zSub_nil))))
  show ZW _ _ _ _ _ _ _ (19, [some (.ref 77), some (.ref p0), some (.ref b35)], [], M39)
  obtain ⟨m, hI⟩ := hb
  exact (main m) M39 (some (.ref p0)) (some (.ref b35)) hJ45 hI
set_option maxRecDepth 100000 in
theorem u_3 {X : List Int32} {d N : Nat} {M0 : zM} (p0 : Nat) (hp0 : zRp p0) (hN : N ≤ 600) (hB0 : zB N M0) {Q : Int → zF → Prop} (hb : b_3 p0 (zi M0) Q) : ZV X (d + 3) 3 [.ref 77, .ref p0] M0 (zRI N [(p0, p0 + 1, 0), (p0, p0 + 1, 1), (p0 + 1, p0 + 14, 1000), (p0, p0 + 1, 14), (77, 78, 0), (77, 78, 1)] M0 (0) (1) (fun v M' => Q v.toInt (zi M'))) := by
  have hbp0 := zRp_b hp0
  have hJ0 : zJ N [(p0, p0 + 1, 0), (p0, p0 + 1, 1), (p0 + 1, p0 + 14, 1000), (p0, p0 + 1, 14), (77, 78, 0), (77, 78, 1)] M0 M0 := zJ_refl hB0
  refine ZV.of (ini := false) rfl (Nat.le_of_ble_eq_true rfl) (by decide +kernel) ?_
  unfold b_3 at hb
  replace hb : zHd _ := hb
  show ZW _ _ _ _ _ _ _ (0, [some (.ref 77), some (.ref p0), none], [], M0)
  refine w_lo dX0_takeBack_0 rfl rfl rfl rfl ?_
  refine w_gfi dX0_takeBack_1 rfl hJ0.1 zs_77 (Nat.le_of_ble_eq_true rfl) zo_77_0 ?_
  intro x1 f2 h3 h4
  replace hb : zHd _ := hb x1.toInt (ziE f2) h3 h4
  rcases Int.decEq x1.toInt (0 : Int) with h5 | h5
  · skip
    replace hb : zHd _ := hb.1 h5
    refine w_ine_t dX0_takeBack_4 (t := 9) rfl (by omega) ?_
    refine w_lo dX0_takeBack_9 rfl rfl rfl rfl ?_
    refine w_pu dX0_takeBack_10 rfl rfl ?_
    refine w_gf dX0_takeBack_11 rfl hJ0.1.1 zs_77 f2 ?_
    refine w_ic dX0_takeBack_14 zi_1 ?_
    refine w_sub dX0_takeBack_15 (by have := zt_1; omega) ?_
    intro x6 h7
    have := zt_1
    replace hb : zHd _ := hb x6.toInt (by have := zt_1; omega)
    refine w_pfi dX0_takeBack_16 rfl hJ0 zs_77 (Nat.le_of_ble_eq_true rfl) zo_77_0 (by omega) (by omega) (zIR_s (zIR_s (zIR_s (zIR_s (zIR_k (by omega) (by omega)))))) rfl rfl rfl ?_
    intro M8 hJ9 f10 hn11
    replace hb : zHd _ := hb (zi M8) (zi_zup hn11 f10 rfl rfl)
    refine w_lo dX0_takeBack_19 rfl rfl rfl rfl ?_
    refine w_lo dX0_takeBack_20 rfl rfl rfl rfl ?_
    refine w_gfi dX0_takeBack_21 rfl hJ9.1 zs_77 (Nat.le_of_ble_eq_true rfl) zo_77_1 ?_
    intro x13 f14 h15 h16
    replace hb : zHd _ := hb x13.toInt (ziE f14) h15 h16
    refine w_bi dX0_takeBack_24 (c := 20) (by decide) ?_
    refine w_add dX0_takeBack_26 (by have := zt_20; omega) ?_
    intro x17 h18
    have := zt_20
    replace hb : zHd _ := hb x17.toInt (by have := zt_20; omega)
    refine w_ic dX0_takeBack_27 zi_1 ?_
    refine w_sub dX0_takeBack_28 (by have := zt_1; omega) ?_
    intro x19 h20
    have := zt_1
    replace hb : zHd _ := hb x19.toInt (by have := zt_1; omega)
    refine w_bi dX0_takeBack_29 (c := 20) (by decide) ?_
    refine w_remE dX0_takeBack_31 (by omega) (by have := zt_20; omega) ?_
    intro x21 h22 h23 h24
    have := zt_20
    replace hb : zHd _ := hb x21.toInt h22 (by omega) (by rw [h24, zt_20])
    refine w_pfi dX0_takeBack_32 rfl hJ9 zs_77 (Nat.le_of_ble_eq_true rfl) zo_77_1 (by omega) (by omega) (zIR_s (zIR_s (zIR_s (zIR_s (zIR_s (zIR_k (by omega) (by omega))))))) rfl rfl rfl ?_
    intro M25 hJ26 f27 hn28
    replace hb : zHd _ := hb (zi M25) (zi_zup hn28 f27 rfl rfl)
    refine w_lo dX0_takeBack_35 rfl rfl rfl rfl ?_
    refine w_gf dX0_takeBack_36 rfl hJ26.1.1 zs_77 (zr_77_2 hJ26.1) ?_
    refine w_lo dX0_takeBack_39 rfl rfl rfl rfl ?_
    refine w_gf dX0_takeBack_40 rfl hJ26.1.1 zs_77 f27 ?_
    refine w_aai dX0_takeBack_43 hJ26.1 (by omega) (by omega) ?_
    intro b30 h31 h33 h32
    replace hb : zHd _ := hb b30 (ziRk h32 rfl) (by exact zaai hJ26.1 h32 (by omega) (by omega))
    refine w_lo (ml' := [some (.ref 77), some (.ref p0), some (.ref b30)]) dX0_takeBack_44 rfl rfl rfl rfl ?_
    refine w_lo dX0_takeBack_45 rfl rfl rfl rfl ?_
    refine w_br dX0_takeBack_46 (pc' := 49) rfl rfl rfl ?_
    refine w_lo dX0_takeBack_49 rfl rfl rfl rfl ?_
    refine w_lo dX0_takeBack_50 rfl rfl rfl rfl ?_
    refine w_iv dX0_takeBack_51 rfl rfl (As := [.ref b30]) rfl rfl hJ26.1.1 (zs_6_0 hp0) (Nat.le_of_ble_eq_true rfl) ?_
    obtain ⟨P36, hp37, hb⟩ := hb
    replace hb : zHd _ := hb
    refine ZV.imp (u_1542 p0 hp0 b30 h31 hN hJ26.1 hp37) ?_
    rintro _ ⟨M34, rfl, hJ35, hq38⟩
    replace hb : zHd _ := hb  (zi M34) (zi_fr hJ35.2) hq38
    have hJ40 := zJ_trans hJ26 hJ35 (zSub_cons (fun _ _ h h' hk => zIR_e (by omega) (by omega) hk) (zSub_cons (fun _ _ h h' hk => zIR_s (zIR_e (by omega) (by omega) hk)) (zSub_cons (fun _ _ h h' hk => zIR_s (zIR_s (zIR_a (by omega) (by omega)))) (zSub_cons (fun _ _ h h' hk => zIR_s (zIR_s (zIR_s (zIR_e (by omega) (by omega) hk)))) zSub_nil))))
    show ZW _ _ _ _ _ _ _ (54, [some (.ref 77), some (.ref p0), some (.ref b30)], [], M34)
    refine w_ic dX0_takeBack_54 zi_1 ?_
    refine w_en dX0_takeBack_55 rfl ?_
    exact ⟨_, _, rfl, (by have := zt_1; omega), (by have := zt_1; omega), hJ40, hb⟩
  · skip
    replace hb : zHd _ := hb.2 h5
    refine w_ine_f dX0_takeBack_4 (t := 9) rfl (by omega) ?_
    refine w_ic dX0_takeBack_7 zi_0 ?_
    refine w_en dX0_takeBack_8 rfl ?_
    exact ⟨_, _, rfl, (by have := zt_0; omega), (by have := zt_0; omega), hJ0, hb⟩
set_option maxRecDepth 100000 in
theorem u_1537 {X : List Int32} {d N : Nat} {M0 : zM} (t : Nat) (ht : zRp t) (p0 : Nat) (hp0 : zDm p0) (hN : N ≤ 600) (hB0 : zB N M0) {Q : zF → Prop} (hb : b_1537 t p0 (zi M0) Q) : ZV X (d + 1) 1537 [.ref t, .ref p0] M0 (zRV N [(t, t + 1, 0), (t, t + 1, 1), (t + 1, t + 13, 1000), (t, t + 1, 14)] M0 (fun M' => Q (zi M'))) := by
  have hbp0 := zDm_b hp0
  have hbt := zRp_b ht
  have hJ0 : zJ N [(t, t + 1, 0), (t, t + 1, 1), (t + 1, t + 13, 1000), (t, t + 1, 14)] M0 M0 := zJ_refl hB0
  refine ZV.of (ini := false) rfl (Nat.le_of_ble_eq_true rfl) (by decide +kernel) ?_
  obtain ⟨I20, I104, hbE, hb20, hb104⟩ := hb
  replace hbE : zHd _ := hbE
  replace hb20 : zHd _ := hb20
  replace hb104 : zHd _ := hb104
  have main : ∀ n : Nat,
      (∀ (M : zM) (v20_2 : Int32), zJ N [(t, t + 1, 0), (t, t + 1, 1), (t + 1, t + 13, 1000), (t, t + 1, 14)] M0 M → ((0 : Int) ≤ v20_2.toInt) → (v20_2.toInt ≤ 12) → I20 n (zi M) v20_2.toInt → ZW X (d + 0) 6 false none cX6_begin (zRV N [(t, t + 1, 0), (t, t + 1, 1), (t + 1, t + 13, 1000), (t, t + 1, 14)] M0 (fun M' => Q (zi M'))) (20, [some (.ref t), some (.ref p0), some (.int v20_2)], [], M)) ∧
      (∀ (M : zM) (v104_2 : Int32), zJ N [(t, t + 1, 0), (t, t + 1, 1), (t + 1, t + 13, 1000), (t, t + 1, 14)] M0 M → ((0 : Int) ≤ v104_2.toInt) → (v104_2.toInt ≤ 11) → I104 n (zi M) v104_2.toInt → ZW X (d + 0) 6 false none cX6_begin (zRV N [(t, t + 1, 0), (t, t + 1, 1), (t + 1, t + 13, 1000), (t, t + 1, 14)] M0 (fun M' => Q (zi M'))) (104, [some (.ref t), some (.ref p0), some (.int v104_2)], [], M)) := by
    intro n
    induction n using Nat.strongRecOn with
    | _ n ih =>
      refine ⟨?_, ?_⟩
      · intro M v20_2 hJ v20_20 v20_21 hI
        have hb : zHd _ := hb20 n (zi M) v20_2.toInt (zi_fr hJ.2) v20_20 v20_21 hI
        refine w_lo dX6_begin_20 rfl rfl rfl rfl ?_
        refine w_bi dX6_begin_21 (c := 12) (by decide) ?_
        rcases zcut v20_2.toInt (12 : Int) with h1 | h1
        · skip
          replace hb : zHd _ := hb.1 h1
          refine w_cge_f dX6_begin_23 (t := 102) rfl (by have := zt_12; omega) ?_
          refine w_lo dX6_begin_26 rfl rfl rfl rfl ?_
          refine w_gf dX6_begin_27 rfl hJ.1.1 (zs_6_0 ht) (zr_6_0_2 ht hJ.1) ?_
          refine w_lo dX6_begin_30 rfl rfl rfl rfl ?_
          refine w_lo dX6_begin_31 rfl rfl rfl rfl ?_
          refine w_isi dX6_begin_32 hJ (zs_6_1 ht) (by omega) (by omega) (zu_6_1 ht) (by omega) (by omega) (zIR_s (zIR_s (zIR_a (by omega) (by omega)))) ?_
          intro M2 hJ3 f4 hn5
          replace hb : zHd _ := hb (zi M2) (zi_zup hn5 f4 rfl rfl)
          refine w_lo dX6_begin_33 rfl rfl rfl rfl ?_
          refine w_gf dX6_begin_34 rfl hJ3.1.1 (zs_6_0 ht) (zr_6_0_3 ht hJ3.1) ?_
          refine w_lo dX6_begin_37 rfl rfl rfl rfl ?_
          refine w_ic dX6_begin_38 zi_1 ?_
          refine w_bsi dX6_begin_39 hJ3 (zs_6_2 ht) (by omega) (by omega) (zu_6_2 ht) (by have := zt_1; omega) (by have := zt_1; omega) (zIR_s (zIR_s (zIR_a (by omega) (by omega)))) ?_
          intro M7 hJ8 f9 hn10
          replace hb : zHd _ := hb (zi M7) (zi_zup hn10 f9 rfl zt_1)
          refine w_lo dX6_begin_40 rfl rfl rfl rfl ?_
          refine w_gf dX6_begin_41 rfl hJ8.1.1 (zs_6_0 ht) (zr_6_0_4 ht hJ8.1) ?_
          refine w_lo dX6_begin_44 rfl rfl rfl rfl ?_
          refine w_ic dX6_begin_45 zi_m1 ?_
          refine w_isi dX6_begin_46 hJ8 (zs_6_3 ht) (by omega) (by omega) (zu_6_3 ht) (by have := zt_m1; omega) (by have := zt_m1; omega) (zIR_s (zIR_s (zIR_a (by omega) (by omega)))) ?_
          intro M12 hJ13 f14 hn15
          replace hb : zHd _ := hb (zi M12) (zi_zup hn15 f14 rfl zt_m1)
          refine w_lo dX6_begin_47 rfl rfl rfl rfl ?_
          refine w_gf dX6_begin_48 rfl hJ13.1.1 (zs_6_0 ht) (zr_6_0_5 ht hJ13.1) ?_
          refine w_lo dX6_begin_51 rfl rfl rfl rfl ?_
          refine w_ic dX6_begin_52 zi_0 ?_
          refine w_isi dX6_begin_53 hJ13 (zs_6_4 ht) (by omega) (by omega) (zu_6_4 ht) (zbot _) (ztop _) (zIR_s (zIR_s (zIR_a (by omega) (by omega)))) ?_
          intro M17 hJ18 f19 hn20
          replace hb : zHd _ := hb (zi M17) (zi_zup hn20 f19 rfl zt_0)
          refine w_lo dX6_begin_54 rfl rfl rfl rfl ?_
          refine w_gf dX6_begin_55 rfl hJ18.1.1 (zs_6_0 ht) (zr_6_0_6 ht hJ18.1) ?_
          refine w_lo dX6_begin_58 rfl rfl rfl rfl ?_
          refine w_ic dX6_begin_59 zi_m1 ?_
          refine w_isi dX6_begin_60 hJ18 (zs_6_5 ht) (by omega) (by omega) (zu_6_5 ht) (by have := zt_m1; omega) (by have := zt_m1; omega) (zIR_s (zIR_s (zIR_a (by omega) (by omega)))) ?_
          intro M22 hJ23 f24 hn25
          replace hb : zHd _ := hb (zi M22) (zi_zup hn25 f24 rfl zt_m1)
          refine w_lo dX6_begin_61 rfl rfl rfl rfl ?_
          refine w_gf dX6_begin_62 rfl hJ23.1.1 (zs_6_0 ht) (zr_6_0_7 ht hJ23.1) ?_
          refine w_lo dX6_begin_65 rfl rfl rfl rfl ?_
          refine w_ic dX6_begin_66 zi_0 ?_
          refine w_isi dX6_begin_67 hJ23 (zs_6_6 ht) (by omega) (by omega) (zu_6_6 ht) (zbot _) (ztop _) (zIR_s (zIR_s (zIR_a (by omega) (by omega)))) ?_
          intro M27 hJ28 f29 hn30
          replace hb : zHd _ := hb (zi M27) (zi_zup hn30 f29 rfl zt_0)
          refine w_lo dX6_begin_68 rfl rfl rfl rfl ?_
          refine w_gf dX6_begin_69 rfl hJ28.1.1 (zs_6_0 ht) (zr_6_0_8 ht hJ28.1) ?_
          refine w_lo dX6_begin_72 rfl rfl rfl rfl ?_
          refine w_ic dX6_begin_73 zi_m1 ?_
          refine w_isi dX6_begin_74 hJ28 (zs_6_7 ht) (by omega) (by omega) (zu_6_7 ht) (by have := zt_m1; omega) (by have := zt_m1; omega) (zIR_s (zIR_s (zIR_a (by omega) (by omega)))) ?_
          intro M32 hJ33 f34 hn35
          replace hb : zHd _ := hb (zi M32) (zi_zup hn35 f34 rfl zt_m1)
          refine w_lo dX6_begin_75 rfl rfl rfl rfl ?_
          refine w_gf dX6_begin_76 rfl hJ33.1.1 (zs_6_0 ht) (zr_6_0_9 ht hJ33.1) ?_
          refine w_lo dX6_begin_79 rfl rfl rfl rfl ?_
          refine w_ic dX6_begin_80 zi_0 ?_
          refine w_isi dX6_begin_81 hJ33 (zs_6_8 ht) (by omega) (by omega) (zu_6_8 ht) (zbot _) (ztop _) (zIR_s (zIR_s (zIR_a (by omega) (by omega)))) ?_
          intro M37 hJ38 f39 hn40
          replace hb : zHd _ := hb (zi M37) (zi_zup hn40 f39 rfl zt_0)
          refine w_lo dX6_begin_82 rfl rfl rfl rfl ?_
          refine w_gf dX6_begin_83 rfl hJ38.1.1 (zs_6_0 ht) (zr_6_0_10 ht hJ38.1) ?_
          refine w_lo dX6_begin_86 rfl rfl rfl rfl ?_
          refine w_ic dX6_begin_87 zi_0 ?_
          refine w_isi dX6_begin_88 hJ38 (zs_6_9 ht) (by omega) (by omega) (zu_6_9 ht) (by have := zt_0; omega) (ztop _) (zIR_s (zIR_s (zIR_a (by omega) (by omega)))) ?_
          intro M42 hJ43 f44 hn45
          replace hb : zHd _ := hb (zi M42) (zi_zup hn45 f44 rfl zt_0)
          refine w_lo dX6_begin_89 rfl rfl rfl rfl ?_
          refine w_gf dX6_begin_90 rfl hJ43.1.1 (zs_6_0 ht) (zr_6_0_11 ht hJ43.1) ?_
          refine w_lo dX6_begin_93 rfl rfl rfl rfl ?_
          refine w_ic dX6_begin_94 zi_0 ?_
          refine w_isi dX6_begin_95 hJ43 (zs_6_10 ht) (by omega) (by omega) (zu_6_10 ht) (zbot _) (by have := zt_0; omega) (zIR_s (zIR_s (zIR_a (by omega) (by omega)))) ?_
          intro M47 hJ48 f49 hn50
          replace hb : zHd _ := hb (zi M47) (zi_zup hn50 f49 rfl zt_0)
          refine w_inc (kk := 2) dX6_begin_96 rfl (m := 1) (by decide) (by omega) ?_
          intro x52 h53
          refine ⟨_, rfl, ?_⟩
          replace hb : zHd _ := hb x52.toInt h53
          show ZW _ _ _ _ _ _ _ (99, [some (.ref t), some (.ref p0), some (.int x52)], [], M47)
          refine w_gt dX6_begin_99 (t := 20) rfl ?_
          obtain ⟨m, hm, hI⟩ := hb
          exact (ih m hm).1 M47 x52 hJ48 (by omega) (by omega) hI
        · skip
          replace hb : zHd _ := hb.2 h1
          refine w_cge_t dX6_begin_23 (t := 102) rfl (by have := zt_12; omega) ?_
          refine w_ic dX6_begin_102 zi_0 ?_
          refine w_lo (ml' := [some (.ref t), some (.ref p0), some (.int 0)]) dX6_begin_103 rfl rfl rfl rfl ?_
          obtain ⟨m, hm, hI⟩ := hb
          exact (ih m hm).2 M 0 hJ (by have := zt_0; omega) (by have := zt_0; omega) hI
      · intro M v104_2 hJ v104_20 v104_21 hI
        have hb : zHd _ := hb104 n (zi M) v104_2.toInt (zi_fr hJ.2) v104_20 v104_21 hI
        refine w_lo dX6_begin_104 rfl rfl rfl rfl ?_
        refine w_bi dX6_begin_105 (c := 11) (by decide) ?_
        rcases zcut v104_2.toInt (11 : Int) with h54 | h54
        · skip
          replace hb : zHd _ := hb.1 h54
          refine w_cge_f dX6_begin_107 (t := 135) rfl (by have := zt_11; omega) ?_
          refine w_lo dX6_begin_110 rfl rfl rfl rfl ?_
          refine w_gf dX6_begin_111 rfl hJ.1.1 (zs_6_0 ht) (zr_6_0_12 ht hJ.1) ?_
          refine w_lo dX6_begin_114 rfl rfl rfl rfl ?_
          refine w_ic dX6_begin_115 zi_1 ?_
          refine w_bsi dX6_begin_116 hJ (zs_6_11 ht) (by omega) (by omega) (zu_6_11 ht) (by have := zt_1; omega) (by have := zt_1; omega) (zIR_s (zIR_s (zIR_a (by omega) (by omega)))) ?_
          intro M55 hJ56 f57 hn58
          replace hb : zHd _ := hb (zi M55) (zi_zup hn58 f57 rfl zt_1)
          refine w_lo dX6_begin_117 rfl rfl rfl rfl ?_
          refine w_gf dX6_begin_118 rfl hJ56.1.1 (zs_6_0 ht) (zr_6_0_13 ht hJ56.1) ?_
          refine w_lo dX6_begin_121 rfl rfl rfl rfl ?_
          refine w_lo dX6_begin_122 rfl rfl rfl rfl ?_
          refine w_gf dX6_begin_123 rfl hJ56.1.1 (zs_1_0 hp0) (zr_1_0_14 hp0 hJ56.1) ?_
          refine w_lo dX6_begin_126 rfl rfl rfl rfl ?_
          refine w_iai dX6_begin_127 hJ56.1 (zs_1_12 hp0) (by omega) (by omega) (zu_1_12 hp0) ?_
          intro x63 f60 h61 h62
          replace hb : zHd _ := hb x63.toInt (ziEk f60 rfl) h61 h62
          refine w_isi dX6_begin_128 hJ56 (zs_6_12 ht) (by omega) (by omega) (zu_6_12 ht) (by omega) (by omega) (zIR_s (zIR_s (zIR_a (by omega) (by omega)))) ?_
          intro M64 hJ65 f66 hn67
          replace hb : zHd _ := hb (zi M64) (zi_zup hn67 f66 rfl rfl)
          refine w_inc (kk := 2) dX6_begin_129 rfl (m := 1) (by decide) (by omega) ?_
          intro x69 h70
          refine ⟨_, rfl, ?_⟩
          replace hb : zHd _ := hb x69.toInt h70
          show ZW _ _ _ _ _ _ _ (132, [some (.ref t), some (.ref p0), some (.int x69)], [], M64)
          refine w_gt dX6_begin_132 (t := 104) rfl ?_
          obtain ⟨m, hm, hI⟩ := hb
          exact (ih m hm).2 M64 x69 hJ65 (by omega) (by omega) hI
        · skip
          replace hb : zHd _ := hb.2 h54
          refine w_cge_t dX6_begin_107 (t := 135) rfl (by have := zt_11; omega) ?_
          refine w_en dX6_begin_135 rfl ?_
          exact ⟨_, rfl, hJ, hb⟩
  have hb : zHd _ := hbE
  show ZW _ _ _ _ _ _ _ (0, [some (.ref t), some (.ref p0), none], [], M0)
  refine w_lo dX6_begin_0 rfl rfl rfl rfl ?_
  refine w_lo dX6_begin_1 rfl rfl rfl rfl ?_
  refine w_gfi dX6_begin_2 rfl hJ0.1 (zs_1_0 hp0) (Nat.le_of_ble_eq_true rfl) (zo_1_0_1 hp0) ?_
  intro x71 f72 h73 h74
  replace hb : zHd _ := hb x71.toInt (ziE f72) h73 h74
  refine w_pfi dX6_begin_5 rfl hJ0 (zs_6_0 ht) (Nat.le_of_ble_eq_true rfl) (zo_6_0_0 ht) (by omega) (by omega) (zIR_k (by omega) (by omega)) rfl rfl rfl ?_
  intro M75 hJ76 f77 hn78
  replace hb : zHd _ := hb (zi M75) (zi_zup hn78 f77 rfl rfl)
  refine w_lo dX6_begin_8 rfl rfl rfl rfl ?_
  refine w_ic dX6_begin_9 zi_0 ?_
  refine w_pfi dX6_begin_10 rfl hJ76 (zs_6_0 ht) (Nat.le_of_ble_eq_true rfl) (zo_6_0_1 ht) (zbot _) (ztop _) (zIR_s (zIR_k (by omega) (by omega))) rfl rfl rfl ?_
  intro M80 hJ81 f82 hn83
  replace hb : zHd _ := hb (zi M80) (zi_zup hn83 f82 rfl zt_0)
  refine w_lo dX6_begin_13 rfl rfl rfl rfl ?_
  refine w_ic dX6_begin_14 zi_0 ?_
  refine w_pfc dX6_begin_15 rfl hJ81 (zs_6_0 ht) (Nat.le_of_ble_eq_true rfl) (zo_6_0_14 ht) (by have := zt_0; omega) (by have := zt_0; omega) (zIR_s (zIR_s (zIR_s (zIR_k (by omega) (by omega))))) rfl rfl rfl ?_
  intro M85 hJ86 f87 hn88
  replace hb : zHd _ := hb (zi M85) (zi_zup hn88 f87 rfl zt_0)
  refine w_ic dX6_begin_18 zi_0 ?_
  refine w_lo (ml' := [some (.ref t), some (.ref p0), some (.int 0)]) dX6_begin_19 rfl rfl rfl rfl ?_
  obtain ⟨m, hI⟩ := hb
  exact (main m).1 M85 0 hJ86 (by have := zt_0; omega) (by have := zt_0; omega) hI
set_option maxRecDepth 100000 in
theorem u_2053 {X : List Int32} {d N : Nat} {M0 : zM}  (hN : N ≤ 600) (hB0 : zB N M0) {Q : Int → zF → Prop} (hb : b_2053 (zi M0) Q) : ZV X (d + 24) 2053 [.ref 0] M0 (zRI N [(2, 3, 0), (7, 42, 0), (49, 50, 0), (77, 78, 0), (0, 1, 1), (2, 3, 1), (7, 42, 1), (49, 50, 1), (2, 3, 10), (4, 7, 1000), (8, 47, 1000), (50, 62, 1000), (385, 386, 1000), (0, 1, 11), (49, 50, 14), (0, 1, 15), (7, 29, 2), (0, 1, 3), (2, 3, 6), (2, 3, 7), (2, 3, 8), (2, 3, 9)] M0 (-1) (90) (fun v M' => Q v.toInt (zi M'))) := by
  have hJ0 : zJ N [(2, 3, 0), (7, 42, 0), (49, 50, 0), (77, 78, 0), (0, 1, 1), (2, 3, 1), (7, 42, 1), (49, 50, 1), (2, 3, 10), (4, 7, 1000), (8, 47, 1000), (50, 62, 1000), (385, 386, 1000), (0, 1, 11), (49, 50, 14), (0, 1, 15), (7, 29, 2), (0, 1, 3), (2, 3, 6), (2, 3, 7), (2, 3, 8), (2, 3, 9)] M0 M0 := zJ_refl hB0
  refine ZV.of (ini := false) rfl (Nat.le_of_ble_eq_true rfl) (by decide +kernel) ?_
  unfold b_2053 at hb
  replace hb : zHd _ := hb
  show ZW _ _ _ _ _ _ _ (0, [some (.ref 0), none, none], [], M0)
  refine w_lo dX8_dorm_0 rfl rfl rfl rfl ?_
  refine w_gfi dX8_dorm_1 rfl hJ0.1 zs_0 (Nat.le_of_ble_eq_true rfl) zo_0_1 ?_
  intro x1 f2 h3 h4
  replace hb : zHd _ := hb x1.toInt (ziE f2) h3 h4
  refine w_lo (ml' := [some (.ref 0), some (.int x1), none]) dX8_dorm_4 rfl rfl rfl rfl ?_
  refine w_lo dX8_dorm_5 rfl rfl rfl rfl ?_
  refine w_ic dX8_dorm_6 zi_0 ?_
  refine w_pfi dX8_dorm_7 rfl hJ0 zs_0 (Nat.le_of_ble_eq_true rfl) zo_0_1 (by have := zt_0; omega) (by have := zt_0; omega) (zIR_s (zIR_s (zIR_s (zIR_s (zIR_k (by omega) (by omega)))))) rfl rfl rfl ?_
  intro M5 hJ6 f7 hn8
  replace hb : zHd _ := hb (zi M5) (zi_zup hn8 f7 rfl zt_0)
  refine w_lo dX8_dorm_10 rfl rfl rfl rfl ?_
  refine w_gf dX8_dorm_11 rfl hJ6.1.1 zs_0 (zr_0_2 hJ6.1) ?_
  refine w_lo dX8_dorm_14 rfl rfl rfl rfl ?_
  refine w_gf dX8_dorm_15 rfl hJ6.1.1 zs_0 (zr_0_0 hJ6.1) ?_
  refine w_lo dX8_dorm_18 rfl rfl rfl rfl ?_
  refine w_iv dX8_dorm_19 rfl rfl (As := [.ref 1, .int x1]) rfl rfl hJ6.1.1 zs_2 (Nat.le_of_ble_eq_true rfl) ?_
  refine ZV.imp (k_1281 x1 (by omega) (by omega) hN hJ6.1) ?_
  rintro _ ⟨x13, M10, rfl, h14, h15, hJ11, hq12⟩
  replace hb : zHd _ := hb x13.toInt h14 h15 (zi M10) (zi_fr hJ11.2)
  have hJ17 := zJ_trans hJ6 hJ11 (zSub_cons (fun _ _ h h' hk => zIR_e (by omega) (by omega) hk) (zSub_cons (fun _ _ h h' hk => zIR_s (zIR_e (by omega) (by omega) hk)) (zSub_cons (fun _ _ h h' hk => zIR_s (zIR_s (zIR_s (zIR_s (zIR_s (zIR_e (by omega) (by omega) hk)))))) (zSub_cons (fun _ _ h h' hk => zIR_s (zIR_s (zIR_s (zIR_s (zIR_s (zIR_s (zIR_e (by omega) (by omega) hk))))))) (zSub_cons (fun _ _ h h' hk => zIR_s (zIR_s (zIR_s (zIR_s (zIR_s (zIR_s (zIR_s (zIR_s (zIR_e (by omega) (by omega) hk))))))))) (zSub_cons (fun _ _ h h' hk => zIR_s (zIR_s (zIR_s (zIR_s (zIR_s (zIR_s (zIR_s (zIR_s (zIR_s (zIR_a (by omega) (by omega))))))))))) (zSub_cons (fun _ _ h h' hk => zIR_s (zIR_s (zIR_s (zIR_s (zIR_s (zIR_s (zIR_s (zIR_s (zIR_s (zIR_s (zIR_a (by omega) (by omega)))))))))))) (zSub_cons (fun _ _ h h' hk => zIR_s (zIR_s (zIR_s (zIR_s (zIR_s (zIR_s (zIR_s (zIR_s (zIR_s (zIR_s (zIR_s (zIR_s (zIR_s (zIR_s (zIR_s (zIR_s (zIR_e (by omega) (by omega) hk))))))))))))))))) (zSub_cons (fun _ _ h h' hk => zIR_s (zIR_s (zIR_s (zIR_s (zIR_s (zIR_s (zIR_s (zIR_s (zIR_s (zIR_s (zIR_s (zIR_s (zIR_s (zIR_s (zIR_s (zIR_s (zIR_s (zIR_s (zIR_e (by omega) (by omega) hk))))))))))))))))))) (zSub_cons (fun _ _ h h' hk => zIR_s (zIR_s (zIR_s (zIR_s (zIR_s (zIR_s (zIR_s (zIR_s (zIR_s (zIR_s (zIR_s (zIR_s (zIR_s (zIR_s (zIR_s (zIR_s (zIR_s (zIR_s (zIR_s (zIR_e (by omega) (by omega) hk)))))))))))))))))))) (zSub_cons (fun _ _ h h' hk => zIR_s (zIR_s (zIR_s (zIR_s (zIR_s (zIR_s (zIR_s (zIR_s (zIR_s (zIR_s (zIR_s (zIR_s (zIR_s (zIR_s (zIR_s (zIR_s (zIR_s (zIR_s (zIR_s (zIR_s (zIR_s (zIR_e (by omega) (by omega) hk)))))))))))))))))))))) zSub_nil)))))))))))
  show ZW _ _ _ _ _ _ _ (22, [some (.ref 0), some (.int x1), none], [.int x13], M10)
  rcases Int.decEq x13.toInt (0 : Int) with h18 | h18
  · skip
    replace hb : zHd _ := hb.1 h18
    refine w_ine_t dX8_dorm_22 (t := 32) rfl (by omega) ?_
    refine w_lo dX8_dorm_32 rfl rfl rfl rfl ?_
    obtain ⟨b19, f20, h21⟩ := zd_0_3 hJ17.1
    have h22 := zDm_b h21
    refine w_gf dX8_dorm_33 rfl hJ17.1.1 zs_0 f20 ?_
    replace hb : zHd _ := hb b19 (ziR f20) (zDm_or h21)
    refine w_lo (ml' := [some (.ref 0), some (.int x1), some (.ref b19)]) dX8_dorm_36 rfl rfl rfl rfl ?_
    refine w_lo dX8_dorm_37 rfl rfl rfl rfl ?_
    refine w_lo dX8_dorm_38 rfl rfl rfl rfl ?_
    refine w_gf dX8_dorm_39 rfl hJ17.1.1 zs_0 (zr_0_2 hJ17.1) ?_
    obtain ⟨b23, f24, h25⟩ := zd_2_8 hJ17.1
    have h26 := zDm_b h25
    refine w_gf dX8_dorm_42 rfl hJ17.1.1 zs_2 f24 ?_
    replace hb : zHd _ := hb b23 (ziR f24) (zDm_or h25)
    refine w_pfd dX8_dorm_45 rfl hJ17 zs_0 (Nat.le_of_ble_eq_true rfl) zo_0_3 (zDm_or h25) (zIR_s (zIR_s (zIR_s (zIR_s (zIR_s (zIR_s (zIR_s (zIR_s (zIR_s (zIR_s (zIR_s (zIR_s (zIR_s (zIR_s (zIR_s (zIR_s (zIR_s (zIR_k (by omega) (by omega))))))))))))))))))) rfl rfl rfl ?_
    intro M27 hJ28 f29 hn30
    replace hb : zHd _ := hb (zi M27) (zi_zupR hn30 f29 rfl)
    refine w_lo dX8_dorm_48 rfl rfl rfl rfl ?_
    refine w_gf dX8_dorm_49 rfl hJ28.1.1 zs_0 (zr_0_2 hJ28.1) ?_
    refine w_lo dX8_dorm_52 rfl rfl rfl rfl ?_
    refine w_pfd dX8_dorm_53 rfl hJ28 zs_2 (Nat.le_of_ble_eq_true rfl) zo_2_8 (zDm_or h21) (zIR_s (zIR_s (zIR_s (zIR_s (zIR_s (zIR_s (zIR_s (zIR_s (zIR_s (zIR_s (zIR_s (zIR_s (zIR_s (zIR_s (zIR_s (zIR_s (zIR_s (zIR_s (zIR_s (zIR_s (zIR_k (by omega) (by omega)))))))))))))))))))))) rfl rfl rfl ?_
    intro M32 hJ33 f34 hn35
    replace hb : zHd _ := hb (zi M32) (zi_zupR hn35 f34 rfl)
    refine w_lo dX8_dorm_56 rfl rfl rfl rfl ?_
    refine w_gf dX8_dorm_57 rfl hJ33.1.1 zs_0 (zr_0_4 hJ33.1) ?_
    refine w_lo dX8_dorm_60 rfl rfl rfl rfl ?_
    have f37 := (hn35 (0) 3 (Or.inr (by decide))).trans (f29)
    refine w_gf dX8_dorm_61 rfl hJ33.1.1 zs_0 f37 ?_
    refine w_iv dX8_dorm_64 rfl rfl (As := [.ref b23]) rfl rfl hJ33.1.1 zs_49 (Nat.le_of_ble_eq_true rfl) ?_
    obtain ⟨P40, hp41, hb⟩ := hb
    replace hb : zHd _ := hb
    refine ZV.imp (u_1537 49 hb_6_49 b23 h25 hN hJ33.1 hp41) ?_
    rintro _ ⟨M38, rfl, hJ39, hq42⟩
    replace hb : zHd _ := hb  (zi M38) (zi_fr hJ39.2) hq42
    have hJ44 := zJ_trans hJ33 hJ39 (zSub_cons (fun _ _ h h' hk => zIR_s (zIR_s (zIR_e (by omega) (by omega) hk))) (zSub_cons (fun _ _ h h' hk => zIR_s (zIR_s (zIR_s (zIR_s (zIR_s (zIR_s (zIR_s (zIR_e (by omega) (by omega) hk)))))))) (zSub_cons (fun _ _ h h' hk => zIR_s (zIR_s (zIR_s (zIR_s (zIR_s (zIR_s (zIR_s (zIR_s (zIR_s (zIR_s (zIR_s (zIR_a (by omega) (by omega))))))))))))) (zSub_cons (fun _ _ h h' hk => zIR_s (zIR_s (zIR_s (zIR_s (zIR_s (zIR_s (zIR_s (zIR_s (zIR_s (zIR_s (zIR_s (zIR_s (zIR_s (zIR_s (zIR_e (by omega) (by omega) hk))))))))))))))) zSub_nil))))
    show ZW _ _ _ _ _ _ _ (67, [some (.ref 0), some (.int x1), some (.ref b19)], [], M38)
    refine w_lo dX8_dorm_67 rfl rfl rfl rfl ?_
    refine w_gf dX8_dorm_68 rfl hJ44.1.1 zs_0 (zr_0_6 hJ44.1) ?_
    refine w_iv dX8_dorm_71 rfl rfl (As := []) rfl rfl hJ44.1.1 zs_77 (Nat.le_of_ble_eq_true rfl) ?_
    obtain ⟨P47, hp48, hb⟩ := hb
    replace hb : zHd _ := hb
    refine ZV.imp (u_1 hN hJ44.1 hp48) ?_
    rintro _ ⟨M45, rfl, hJ46, hq49⟩
    replace hb : zHd _ := hb  (zi M45) (zi_fr hJ46.2) hq49
    have hJ51 := zJ_trans hJ44 hJ46 (zSub_cons (fun _ _ h h' hk => zIR_s (zIR_s (zIR_s (zIR_e (by omega) (by omega) hk)))) zSub_nil)
    show ZW _ _ _ _ _ _ _ (74, [some (.ref 0), some (.int x1), some (.ref b19)], [], M45)
    refine w_lo dX8_dorm_74 rfl rfl rfl rfl ?_
    refine w_ic dX8_dorm_75 zi_0 ?_
    refine w_pfi dX8_dorm_76 rfl hJ51 zs_0 (Nat.le_of_ble_eq_true rfl) zo_0_11 (by have := zt_0; omega) (by have := zt_0; omega) (zIR_s (zIR_s (zIR_s (zIR_s (zIR_s (zIR_s (zIR_s (zIR_s (zIR_s (zIR_s (zIR_s (zIR_s (zIR_s (zIR_k (by omega) (by omega))))))))))))))) rfl rfl rfl ?_
    intro M52 hJ53 f54 hn55
    replace hb : zHd _ := hb (zi M52) (zi_zup hn55 f54 rfl zt_0)
    refine w_lo dX8_dorm_79 rfl rfl rfl rfl ?_
    refine w_pu dX8_dorm_80 rfl rfl ?_
    refine w_gfi dX8_dorm_81 rfl hJ53.1 zs_0 (Nat.le_of_ble_eq_true rfl) zo_0_15 ?_
    intro x57 f58 h59 h60
    replace hb : zHd _ := hb x57.toInt (ziE f58)
    refine w_ic dX8_dorm_84 zi_1 ?_
    refine w_puI dX8_dorm_85 rfl rfl ?_
    intro x61
    replace hb : zHd _ := hb x61.toInt 
    refine w_pfi dX8_dorm_86 rfl hJ53 zs_0 (Nat.le_of_ble_eq_true rfl) zo_0_15 (zbot _) (ztop _) (zIR_s (zIR_s (zIR_s (zIR_s (zIR_s (zIR_s (zIR_s (zIR_s (zIR_s (zIR_s (zIR_s (zIR_s (zIR_s (zIR_s (zIR_s (zIR_k (by omega) (by omega))))))))))))))))) rfl rfl rfl ?_
    intro M62 hJ63 f64 hn65
    replace hb : zHd _ := hb (zi M62) (zi_zup hn65 f64 rfl rfl)
    refine w_lo dX8_dorm_89 rfl rfl rfl rfl ?_
    have f67 := (hn65 (0) 3 (Or.inr (by decide))).trans ((hn55 (0) 3 (Or.inr (by decide))).trans ((hJ46.2 (0) 3 (zNI_k (by decide) (by decide) zNI_nil)).trans ((hJ39.2 (0) 3 (zNI_k (by decide) (by decide) (zNI_k (by decide) (by decide) (zNI (by omega) (zNI_k (by decide) (by decide) zNI_nil))))).trans (f37))))
    refine w_gf dX8_dorm_90 rfl hJ63.1.1 zs_0 f67 ?_
    refine w_gfi dX8_dorm_93 rfl hJ63.1 (zs_1_0 h25) (Nat.le_of_ble_eq_true rfl) (zo_1_0_0 h25) ?_
    intro x68 f69 h70 h71
    replace hb : zHd _ := hb x68.toInt (ziE f69) h70 h71
    refine w_eni dX8_dorm_96 rfl rfl ?_
    exact ⟨_, _, rfl, (by omega), (by omega), hJ63, hb⟩
  · skip
    replace hb : zHd _ := hb.2 h18
    refine w_ine_f dX8_dorm_22 (t := 32) rfl (by omega) ?_
    refine w_lo dX8_dorm_25 rfl rfl rfl rfl ?_
    refine w_ic dX8_dorm_26 zi_1 ?_
    refine w_iv dX8_dorm_27 rfl rfl (As := [.int 1]) rfl rfl hJ17.1.1 zs_0 (Nat.le_of_ble_eq_true rfl) ?_
    refine ZV.imp (k_2050 1 (by have := zt_1; omega) (by have := zt_1; omega) hN hJ17.1) ?_
    rintro _ ⟨M72, rfl, hJ73, hq74⟩
    replace hb : zHd _ := hb  (zi M72) (zi_fr hJ73.2)
    have hJ76 := zJ_trans hJ17 hJ73 (zSub_cons (fun _ _ h h' hk => zIR_s (zIR_s (zIR_s (zIR_s (zIR_s (zIR_s (zIR_s (zIR_s (zIR_s (zIR_s (zIR_s (zIR_s (zIR_a (by omega) (by omega)))))))))))))) zSub_nil)
    show ZW _ _ _ _ _ _ _ (30, [some (.ref 0), some (.int x1), none], [], M72)
    refine w_ic dX8_dorm_30 zi_m1 ?_
    refine w_en dX8_dorm_31 rfl ?_
    exact ⟨_, _, rfl, (by have := zt_m1; omega), (by have := zt_m1; omega), hJ76, hb⟩
set_option maxRecDepth 100000 in
theorem u_2074 {X : List Int32} {d N : Nat} {M0 : zM}  (hN : N ≤ 600) (hB0 : zB N M0) {Q : zF → Prop} (hb : b_2074 (zi M0) Q) : ZV X (d + 4) 2074 [.ref 0] M0 (zRV N [(77, 78, 0), (79, 346, 0), (77, 78, 1), (79, 346, 1), (80, 359, 1000), (79, 346, 14), (0, 1, 15)] M0 (fun M' => Q (zi M'))) := by
  have hJ0 : zJ N [(77, 78, 0), (79, 346, 0), (77, 78, 1), (79, 346, 1), (80, 359, 1000), (79, 346, 14), (0, 1, 15)] M0 M0 := zJ_refl hB0
  refine ZV.of (ini := false) rfl (Nat.le_of_ble_eq_true rfl) (by decide +kernel) ?_
  unfold b_2074 at hb
  replace hb : zHd _ := hb
  show ZW _ _ _ _ _ _ _ (0, [some (.ref 0)], [], M0)
  refine w_lo dX8_startAct_0 rfl rfl rfl rfl ?_
  refine w_gf dX8_startAct_1 rfl hJ0.1.1 zs_0 (zr_0_6 hJ0.1) ?_
  refine w_lo dX8_startAct_4 rfl rfl rfl rfl ?_
  refine w_gf dX8_startAct_5 rfl hJ0.1.1 zs_0 (zr_0_4 hJ0.1) ?_
  refine w_iv dX8_startAct_8 rfl rfl (As := [.ref 49]) rfl rfl hJ0.1.1 zs_77 (Nat.le_of_ble_eq_true rfl) ?_
  obtain ⟨P3, hp4, hb⟩ := hb
  replace hb : zHd _ := hb
  refine ZV.imp (u_2 49 hb_6_49 hN hJ0.1 hp4) ?_
  rintro _ ⟨M1, rfl, hJ2, hq5⟩
  replace hb : zHd _ := hb  (zi M1) (zi_fr hJ2.2) hq5
  have hJ7 := zJ_trans hJ0 hJ2 (zSub_cons (fun _ _ h h' hk => zIR_e (by omega) (by omega) hk) (zSub_cons (fun _ _ h h' hk => zIR_s (zIR_e (by omega) (by omega) hk)) (zSub_cons (fun _ _ h h' hk => zIR_s (zIR_s (zIR_e (by omega) (by omega) hk))) (zSub_cons (fun _ _ h h' hk => zIR_s (zIR_s (zIR_s (zIR_e (by omega) (by omega) hk)))) (zSub_cons (fun _ _ h h' hk => zIR_s (zIR_s (zIR_s (zIR_s (zIR_a (by omega) (by omega)))))) (zSub_cons (fun _ _ h h' hk => zIR_s (zIR_s (zIR_s (zIR_s (zIR_s (zIR_e (by omega) (by omega) hk)))))) zSub_nil))))))
  show ZW _ _ _ _ _ _ _ (11, [some (.ref 0)], [], M1)
  refine w_lo dX8_startAct_11 rfl rfl rfl rfl ?_
  refine w_pu dX8_startAct_12 rfl rfl ?_
  refine w_gfi dX8_startAct_13 rfl hJ7.1 zs_0 (Nat.le_of_ble_eq_true rfl) zo_0_15 ?_
  intro x8 f9 h10 h11
  replace hb : zHd _ := hb x8.toInt (ziE f9)
  refine w_ic dX8_startAct_16 zi_1 ?_
  refine w_puI dX8_startAct_17 rfl rfl ?_
  intro x12
  replace hb : zHd _ := hb x12.toInt 
  refine w_pfi dX8_startAct_18 rfl hJ7 zs_0 (Nat.le_of_ble_eq_true rfl) zo_0_15 (zbot _) (ztop _) (zIR_s (zIR_s (zIR_s (zIR_s (zIR_s (zIR_s (zIR_k (by omega) (by omega)))))))) rfl rfl rfl ?_
  intro M13 hJ14 f15 hn16
  replace hb : zHd _ := hb (zi M13) (zi_zup hn16 f15 rfl rfl)
  refine w_en dX8_startAct_21 rfl ?_
  exact ⟨_, rfl, hJ14, hb⟩
set_option maxRecDepth 100000 in
theorem u_2080 {X : List Int32} {d N : Nat} {M0 : zM}  (hN : N ≤ 600) (hB0 : zB N M0) {Q : Int → zF → Prop} (hb : b_2080 (zi M0) Q) : ZV X (d + 4) 2080 [.ref 0] M0 (zRI N [(49, 50, 0), (77, 78, 0), (49, 50, 1), (77, 78, 1), (50, 63, 1000), (385, 386, 1000), (49, 50, 14), (0, 1, 15)] M0 (0) (1) (fun v M' => Q v.toInt (zi M'))) := by
  have hJ0 : zJ N [(49, 50, 0), (77, 78, 0), (49, 50, 1), (77, 78, 1), (50, 63, 1000), (385, 386, 1000), (49, 50, 14), (0, 1, 15)] M0 M0 := zJ_refl hB0
  refine ZV.of (ini := false) rfl (Nat.le_of_ble_eq_true rfl) (by decide +kernel) ?_
  unfold b_2080 at hb
  replace hb : zHd _ := hb
  show ZW _ _ _ _ _ _ _ (0, [some (.ref 0)], [], M0)
  refine w_lo dX8_undo_0 rfl rfl rfl rfl ?_
  refine w_gf dX8_undo_1 rfl hJ0.1.1 zs_0 (zr_0_6 hJ0.1) ?_
  refine w_lo dX8_undo_4 rfl rfl rfl rfl ?_
  refine w_gf dX8_undo_5 rfl hJ0.1.1 zs_0 (zr_0_4 hJ0.1) ?_
  refine w_iv dX8_undo_8 rfl rfl (As := [.ref 49]) rfl rfl hJ0.1.1 zs_77 (Nat.le_of_ble_eq_true rfl) ?_
  obtain ⟨P3, hp4, hb⟩ := hb
  replace hb : zHd _ := hb
  refine ZV.imp (u_3 49 hb_6_49 hN hJ0.1 hp4) ?_
  rintro _ ⟨x6, M1, rfl, h7, h8, hJ2, hq5⟩
  replace hb : zHd _ := hb x6.toInt h7 h8 (zi M1) (zi_fr hJ2.2) hq5
  have hJ10 := zJ_trans hJ0 hJ2 (zSub_cons (fun _ _ h h' hk => zIR_e (by omega) (by omega) hk) (zSub_cons (fun _ _ h h' hk => zIR_s (zIR_s (zIR_e (by omega) (by omega) hk))) (zSub_cons (fun _ _ h h' hk => zIR_s (zIR_s (zIR_s (zIR_s (zIR_a (by omega) (by omega)))))) (zSub_cons (fun _ _ h h' hk => zIR_s (zIR_s (zIR_s (zIR_s (zIR_s (zIR_s (zIR_e (by omega) (by omega) hk))))))) (zSub_cons (fun _ _ h h' hk => zIR_s (zIR_e (by omega) (by omega) hk)) (zSub_cons (fun _ _ h h' hk => zIR_s (zIR_s (zIR_s (zIR_e (by omega) (by omega) hk)))) zSub_nil))))))
  show ZW _ _ _ _ _ _ _ (11, [some (.ref 0)], [.int x6], M1)
  rcases Int.decEq x6.toInt (0 : Int) with h11 | h11
  · skip
    replace hb : zHd _ := hb.1 h11
    refine w_ine_t dX8_undo_11 (t := 21) rfl (by omega) ?_
    refine w_lo dX8_undo_21 rfl rfl rfl rfl ?_
    refine w_pu dX8_undo_22 rfl rfl ?_
    refine w_gfi dX8_undo_23 rfl hJ10.1 zs_0 (Nat.le_of_ble_eq_true rfl) zo_0_15 ?_
    intro x12 f13 h14 h15
    replace hb : zHd _ := hb x12.toInt (ziE f13)
    refine w_ic dX8_undo_26 zi_1 ?_
    refine w_puI dX8_undo_27 rfl rfl ?_
    intro x16
    replace hb : zHd _ := hb x16.toInt 
    refine w_pfi dX8_undo_28 rfl hJ10 zs_0 (Nat.le_of_ble_eq_true rfl) zo_0_15 (zbot _) (ztop _) (zIR_s (zIR_s (zIR_s (zIR_s (zIR_s (zIR_s (zIR_s (zIR_k (by omega) (by omega))))))))) rfl rfl rfl ?_
    intro M17 hJ18 f19 hn20
    replace hb : zHd _ := hb (zi M17) (zi_zup hn20 f19 rfl rfl)
    refine w_ic dX8_undo_31 zi_1 ?_
    refine w_en dX8_undo_32 rfl ?_
    exact ⟨_, _, rfl, (by have := zt_1; omega), (by have := zt_1; omega), hJ18, hb⟩
  · skip
    replace hb : zHd _ := hb.2 h11
    refine w_ine_f dX8_undo_11 (t := 21) rfl (by omega) ?_
    refine w_lo dX8_undo_14 rfl rfl rfl rfl ?_
    refine w_ic dX8_undo_15 zi_4 ?_
    refine w_iv dX8_undo_16 rfl rfl (As := [.int 4]) rfl rfl hJ10.1.1 zs_0 (Nat.le_of_ble_eq_true rfl) ?_
    refine ZV.imp (k_2050 4 (by have := zt_4; omega) (by have := zt_4; omega) hN hJ10.1) ?_
    rintro _ ⟨M22, rfl, hJ23, hq24⟩
    replace hb : zHd _ := hb  (zi M22) (zi_fr hJ23.2)
    have hJ26 := zJ_trans hJ10 hJ23 (zSub_cons (fun _ _ h h' hk => zIR_s (zIR_s (zIR_s (zIR_s (zIR_s (zIR_a (by omega) (by omega))))))) zSub_nil)
    show ZW _ _ _ _ _ _ _ (19, [some (.ref 0)], [], M22)
    refine w_ic dX8_undo_19 zi_0 ?_
    refine w_en dX8_undo_20 rfl ?_
    exact ⟨_, _, rfl, (by have := zt_0; omega), (by have := zt_0; omega), hJ26, hb⟩
set_option maxRecDepth 100000 in
theorem u_2092 {X : List Int32} {d N : Nat} {M0 : zM} (a0 : Int32) (hN : N ≤ 600) (hB0 : zB N M0) {Q : Int → zF → Prop} (hb : b_2092 (zi M0) a0.toInt Q) : ZV X (d + 1) 2092 [.ref 0, .int a0] M0 (zRI N [] M0 (0) (255) (fun v M' => Q v.toInt (zi M'))) := by
  have hJ0 : zJ N [] M0 M0 := zJ_refl hB0
  refine ZV.of (ini := false) rfl (Nat.le_of_ble_eq_true rfl) (by decide +kernel) ?_
  unfold b_2092 at hb
  replace hb : zHd _ := hb
  show ZW _ _ _ _ _ _ _ (0, [some (.ref 0), some (.int a0)], [], M0)
  refine w_lo dX8_onTape_0 rfl rfl rfl rfl ?_
  rcases zcut a0.toInt (0 : Int) with h1 | h1
  · skip
    replace hb : zHd _ := hb.1 h1
    refine w_ilt_t dX8_onTape_1 (t := 11) rfl (by omega) ?_
    refine w_ic dX8_onTape_11 zi_0 ?_
    refine w_gt dX8_onTape_12 (t := 21) rfl ?_
    refine w_en dX8_onTape_21 rfl ?_
    exact ⟨_, _, rfl, (by have := zt_0; omega), (by have := zt_0; omega), hJ0, hb⟩
  · skip
    replace hb : zHd _ := hb.2 h1
    refine w_ilt_f dX8_onTape_1 (t := 11) rfl (by omega) ?_
    refine w_lo dX8_onTape_4 rfl rfl rfl rfl ?_
    refine w_si dX8_onTape_5 (c := 1600) (by decide) ?_
    rcases zcut a0.toInt (1600 : Int) with h2 | h2
    · skip
      replace hb : zHd _ := hb.1 h2
      refine w_clt_t dX8_onTape_8 (t := 15) rfl (by have := zt_1600; omega) ?_
      refine w_lo dX8_onTape_15 rfl rfl rfl rfl ?_
      refine w_gf dX8_onTape_16 rfl hJ0.1.1 zs_0 (zr_0_0 hJ0.1) ?_
      refine w_lo dX8_onTape_19 rfl rfl rfl rfl ?_
      refine w_iai dX8_onTape_20 hJ0.1 zs_1 (by omega) (by omega) zu_1 ?_
      intro x6 f3 h4 h5
      replace hb : zHd _ := hb x6.toInt (ziEk f3 rfl) h4 h5
      refine w_eni dX8_onTape_21 rfl rfl ?_
      exact ⟨_, _, rfl, (by omega), (by omega), hJ0, hb⟩
    · skip
      replace hb : zHd _ := hb.2 h2
      refine w_clt_f dX8_onTape_8 (t := 15) rfl (by have := zt_1600; omega) ?_
      refine w_ic dX8_onTape_11 zi_0 ?_
      refine w_gt dX8_onTape_12 (t := 21) rfl ?_
      refine w_en dX8_onTape_21 rfl ?_
      exact ⟨_, _, rfl, (by have := zt_0; omega), (by have := zt_0; omega), hJ0, hb⟩
set_option maxRecDepth 100000 in
theorem u_2091 {X : List Int32} {d N : Nat} {M0 : zM} (a0 : Int32) (hN : N ≤ 600) (hB0 : zB N M0) {Q : Int → zF → Prop} (hb : b_2091 (zi M0) a0.toInt Q) : ZV X (d + 2) 2091 [.ref 0, .int a0] M0 (zRI N [] M0 (0) (65535) (fun v M' => Q v.toInt (zi M'))) := by
  have hJ0 : zJ N [] M0 M0 := zJ_refl hB0
  refine ZV.of (ini := false) rfl (Nat.le_of_ble_eq_true rfl) (by decide +kernel) ?_
  unfold b_2091 at hb
  replace hb : zHd _ := hb
  show ZW _ _ _ _ _ _ _ (0, [some (.ref 0), some (.int a0)], [], M0)
  refine w_si dX8_pairOnTape_0 (c := 256) (by decide) ?_
  refine w_lo dX8_pairOnTape_3 rfl rfl rfl rfl ?_
  refine w_lo dX8_pairOnTape_4 rfl rfl rfl rfl ?_
  refine w_iv dX8_pairOnTape_5 rfl rfl (As := [.int a0]) rfl rfl hJ0.1.1 zs_0 (Nat.le_of_ble_eq_true rfl) ?_
  obtain ⟨P3, hp4, hb⟩ := hb
  replace hb : zHd _ := hb
  refine ZV.imp (u_2092 a0 hN hJ0.1 hp4) ?_
  rintro _ ⟨x6, M1, rfl, h7, h8, hJ2, hq5⟩
  replace hb : zHd _ := hb x6.toInt h7 h8 (zi M1) (zi_fr hJ2.2) hq5
  have hJ10 := zJ_trans hJ0 hJ2 zSub_nil
  show ZW _ _ _ _ _ _ _ (8, [some (.ref 0), some (.int a0)], [.int x6, .int 256], M1)
  refine w_mulc dX8_pairOnTape_8 zt_256 (by have := zt_256; omega) ?_
  intro x11 h12
  have := zt_256
  replace hb : zHd _ := hb x11.toInt (by have := zt_256; omega)
  refine w_lo dX8_pairOnTape_9 rfl rfl rfl rfl ?_
  refine w_lo dX8_pairOnTape_10 rfl rfl rfl rfl ?_
  refine w_ic dX8_pairOnTape_11 zi_1 ?_
  refine w_puI dX8_pairOnTape_12 rfl rfl ?_
  intro x13
  replace hb : zHd _ := hb x13.toInt 
  refine w_iv dX8_pairOnTape_13 rfl rfl (As := [.int x13]) rfl rfl hJ10.1.1 zs_0 (Nat.le_of_ble_eq_true rfl) ?_
  obtain ⟨P16, hp17, hb⟩ := hb
  replace hb : zHd _ := hb
  refine ZV.imp (u_2092 x13 hN hJ10.1 hp17) ?_
  rintro _ ⟨x19, M14, rfl, h20, h21, hJ15, hq18⟩
  replace hb : zHd _ := hb x19.toInt h20 h21 (zi M14) (zi_fr hJ15.2) hq18
  have hJ23 := zJ_trans hJ10 hJ15 zSub_nil
  show ZW _ _ _ _ _ _ _ (16, [some (.ref 0), some (.int a0)], [.int x19, .int x11], M14)
  refine w_add dX8_pairOnTape_16 (by omega) ?_
  intro x24 h25
  replace hb : zHd _ := hb x24.toInt (by omega)
  refine w_eni dX8_pairOnTape_17 rfl rfl ?_
  exact ⟨_, _, rfl, (by omega), (by omega), hJ23, hb⟩
set_option maxRecDepth 100000 in
theorem u_2112 {X : List Int32} {d N : Nat} {M0 : zM} (a0 : Int32) (a1 : Int32) (hN : N ≤ 600) (hB0 : zB N M0) {Q : Int → zF → Prop} (hb : b_2112 (zi M0) a0.toInt a1.toInt Q) : ZV X (d + 3) 2112 [.ref 0, .int a0, .int a1] M0 (zRI N [] M0 (0) (1) (fun v M' => Q v.toInt (zi M'))) := by
  have hJ0 : zJ N [] M0 M0 := zJ_refl hB0
  refine ZV.of (ini := false) rfl (Nat.le_of_ble_eq_true rfl) (by decide +kernel) ?_
  obtain ⟨I120, I134, I150, hbE, hb120, hb134, hb150⟩ := hb
  replace hbE : zHd _ := hbE
  replace hb120 : zHd _ := hb120
  replace hb134 : zHd _ := hb134
  replace hb150 : zHd _ := hb150
  have main : ∀ n : Nat,
      (∀ (M : zM) (v120_1 : Int32) (u120_2 : Int32) (v120_3 : Int32) (v120_4 : Int32) (u120_5 : Int32) (v120_6 : Int32) (o120_7 : Option Value), zJ N [] M0 M → ((-2147483648 : Int) ≤ v120_1.toInt) → (v120_1.toInt ≤ 2147483647) → ((0 : Int) ≤ v120_3.toInt) → (v120_3.toInt ≤ 1) → ((-1 : Int) ≤ v120_4.toInt) → (v120_4.toInt ≤ 5) → ((-1 : Int) ≤ v120_6.toInt) → (v120_6.toInt ≤ 5) → I120 n (zi M) v120_1.toInt v120_3.toInt v120_4.toInt v120_6.toInt → ZW X (d + 2) 8 false (some .boolean) cX8_isImageOfBoy (zRI N [] M0 (0) (1) (fun v M' => Q v.toInt (zi M'))) (120, [some (.ref 0), some (.int v120_1), some (.int u120_2), some (.int v120_3), some (.int v120_4), some (.int u120_5), some (.int v120_6), o120_7], [], M)) ∧
      (∀ (M : zM) (v134_1 : Int32) (u134_2 : Int32) (v134_3 : Int32) (v134_4 : Int32) (u134_5 : Int32) (v134_6 : Int32) (o134_7 : Option Value), zJ N [] M0 M → ((-2147483648 : Int) ≤ v134_1.toInt) → (v134_1.toInt ≤ 2147483647) → ((0 : Int) ≤ v134_3.toInt) → (v134_3.toInt ≤ 1) → ((-1 : Int) ≤ v134_4.toInt) → (v134_4.toInt ≤ 5) → ((-1 : Int) ≤ v134_6.toInt) → (v134_6.toInt ≤ 5) → I134 n (zi M) v134_1.toInt v134_3.toInt v134_4.toInt v134_6.toInt → ZW X (d + 2) 8 false (some .boolean) cX8_isImageOfBoy (zRI N [] M0 (0) (1) (fun v M' => Q v.toInt (zi M'))) (134, [some (.ref 0), some (.int v134_1), some (.int u134_2), some (.int v134_3), some (.int v134_4), some (.int u134_5), some (.int v134_6), o134_7], [], M)) ∧
      (∀ (M : zM) (v150_1 : Int32) (u150_2 : Int32) (v150_3 : Int32) (u150_4 : Int32) (u150_5 : Int32) (u150_6 : Int32) (o150_7 : Option Value), zJ N [] M0 M → ((-2147483648 : Int) ≤ v150_1.toInt) → (v150_1.toInt ≤ 2147483647) → ((0 : Int) ≤ v150_3.toInt) → (v150_3.toInt ≤ 1) → I150 n (zi M) v150_1.toInt v150_3.toInt → ZW X (d + 2) 8 false (some .boolean) cX8_isImageOfBoy (zRI N [] M0 (0) (1) (fun v M' => Q v.toInt (zi M'))) (150, [some (.ref 0), some (.int v150_1), some (.int u150_2), some (.int v150_3), some (.int u150_4), some (.int u150_5), some (.int u150_6), o150_7], [], M)) := by
    intro n
    induction n using Nat.strongRecOn with
    | _ n ih =>
      refine ⟨?_, ?_, ?_⟩
      · intro M v120_1 u120_2 v120_3 v120_4 u120_5 v120_6 o120_7 hJ v120_10 v120_11 v120_30 v120_31 v120_40 v120_41 v120_60 v120_61 hI
        have hb : zHd _ := hb120 n (zi M) v120_1.toInt v120_3.toInt v120_4.toInt v120_6.toInt (zi_fr hJ.2) v120_30 v120_31 v120_40 v120_41 v120_60 v120_61 hI
        refine w_lo dX8_isImageOfBoy_120 rfl rfl rfl rfl ?_
        refine w_ic dX8_isImageOfBoy_122 zi_m1 ?_
        rcases Int.decEq v120_4.toInt (-1 : Int) with h1 | h1
        · skip
          replace hb : zHd _ := hb.1 h1
          refine w_ceq_f dX8_isImageOfBoy_123 (t := 134) rfl (by have := zt_m1; omega) ?_
          refine w_lo dX8_isImageOfBoy_126 rfl rfl rfl rfl ?_
          refine w_ic dX8_isImageOfBoy_128 zi_m1 ?_
          rcases Int.decEq v120_6.toInt (-1 : Int) with h2 | h2
          · skip
            replace hb : zHd _ := hb.1 h2
            refine w_ceq_f dX8_isImageOfBoy_129 (t := 134) rfl (by have := zt_m1; omega) ?_
            refine w_ic dX8_isImageOfBoy_132 zi_0 ?_
            refine w_en dX8_isImageOfBoy_133 rfl ?_
            exact ⟨_, _, rfl, (by have := zt_0; omega), (by have := zt_0; omega), hJ, hb⟩
          · skip
            replace hb : zHd _ := hb.2 h2
            refine w_ceq_t dX8_isImageOfBoy_129 (t := 134) rfl (by have := zt_m1; omega) ?_
            obtain ⟨m, hm, hI⟩ := hb
            exact (ih m hm).2.1 M v120_1 u120_2 v120_3 v120_4 u120_5 v120_6 o120_7 hJ (zbot _) (ztop _) (by omega) (by omega) (by omega) (by omega) (by omega) (by omega) hI
        · skip
          replace hb : zHd _ := hb.2 h1
          refine w_ceq_t dX8_isImageOfBoy_123 (t := 134) rfl (by have := zt_m1; omega) ?_
          obtain ⟨m, hm, hI⟩ := hb
          exact (ih m hm).2.1 M v120_1 u120_2 v120_3 v120_4 u120_5 v120_6 o120_7 hJ (zbot _) (ztop _) (by omega) (by omega) (by omega) (by omega) (by omega) (by omega) hI
      · intro M v134_1 u134_2 v134_3 v134_4 u134_5 v134_6 o134_7 hJ v134_10 v134_11 v134_30 v134_31 v134_40 v134_41 v134_60 v134_61 hI
        have hb : zHd _ := hb134 n (zi M) v134_1.toInt v134_3.toInt v134_4.toInt v134_6.toInt (zi_fr hJ.2) v134_30 v134_31 v134_40 v134_41 v134_60 v134_61 hI
        refine w_lo dX8_isImageOfBoy_134 rfl rfl rfl rfl ?_
        refine w_ic dX8_isImageOfBoy_136 zi_m1 ?_
        rcases Int.decEq v134_4.toInt (-1 : Int) with h3 | h3
        · skip
          replace hb : zHd _ := hb.1 h3
          refine w_cne_t dX8_isImageOfBoy_137 (t := 150) rfl (by have := zt_m1; omega) ?_
          obtain ⟨m, hm, hI⟩ := hb
          exact (ih m hm).2.2 M v134_1 u134_2 v134_3 v134_4 u134_5 v134_6 o134_7 hJ (zbot _) (ztop _) (by omega) (by omega) hI
        · skip
          replace hb : zHd _ := hb.2 h3
          refine w_cne_f dX8_isImageOfBoy_137 (t := 150) rfl (by have := zt_m1; omega) ?_
          refine w_lo dX8_isImageOfBoy_140 rfl rfl rfl rfl ?_
          refine w_ic dX8_isImageOfBoy_142 zi_m1 ?_
          rcases Int.decEq v134_6.toInt (-1 : Int) with h4 | h4
          · skip
            replace hb : zHd _ := hb.1 h4
            refine w_cne_t dX8_isImageOfBoy_143 (t := 150) rfl (by have := zt_m1; omega) ?_
            obtain ⟨m, hm, hI⟩ := hb
            exact (ih m hm).2.2 M v134_1 u134_2 v134_3 v134_4 u134_5 v134_6 o134_7 hJ (zbot _) (ztop _) (by omega) (by omega) hI
          · skip
            replace hb : zHd _ := hb.2 h4
            refine w_cne_f dX8_isImageOfBoy_143 (t := 150) rfl (by have := zt_m1; omega) ?_
            refine w_ic dX8_isImageOfBoy_146 zi_1 ?_
            refine w_gt dX8_isImageOfBoy_147 (t := 151) rfl ?_
            refine w_lo (ml' := [some (.ref 0), some (.int v134_1), some (.int u134_2), some (.int v134_3), some (.int v134_4), some (.int u134_5), some (.int v134_6), some (.int 1)]) dX8_isImageOfBoy_151 rfl rfl rfl rfl ?_
            refine w_lo dX8_isImageOfBoy_153 rfl rfl rfl rfl ?_
            refine w_ine_t dX8_isImageOfBoy_155 (t := 174) rfl (by have := zt_1; omega) ?_
            refine w_ic dX8_isImageOfBoy_174 zi_1 ?_
            refine w_gt dX8_isImageOfBoy_175 (t := 179) rfl ?_
            refine w_en dX8_isImageOfBoy_179 rfl ?_
            exact ⟨_, _, rfl, (by have := zt_1; omega), (by have := zt_1; omega), hJ, hb⟩
      · intro M v150_1 u150_2 v150_3 u150_4 u150_5 u150_6 o150_7 hJ v150_10 v150_11 v150_30 v150_31 hI
        have hb : zHd _ := hb150 n (zi M) v150_1.toInt v150_3.toInt (zi_fr hJ.2) v150_30 v150_31 hI
        refine w_ic dX8_isImageOfBoy_150 zi_0 ?_
        refine w_lo (ml' := [some (.ref 0), some (.int v150_1), some (.int u150_2), some (.int v150_3), some (.int u150_4), some (.int u150_5), some (.int u150_6), some (.int 0)]) dX8_isImageOfBoy_151 rfl rfl rfl rfl ?_
        refine w_lo dX8_isImageOfBoy_153 rfl rfl rfl rfl ?_
        refine w_ine_f dX8_isImageOfBoy_155 (t := 174) rfl (by have := zt_0; omega) ?_
        refine w_lo dX8_isImageOfBoy_158 rfl rfl rfl rfl ?_
        refine w_ic dX8_isImageOfBoy_159 zi_1 ?_
        rcases Int.decEq v150_3.toInt (1 : Int) with h5 | h5
        · skip
          replace hb : zHd _ := hb.1 h5
          refine w_cne_t dX8_isImageOfBoy_160 (t := 178) rfl (by have := zt_1; omega) ?_
          refine w_ic dX8_isImageOfBoy_178 zi_0 ?_
          refine w_en dX8_isImageOfBoy_179 rfl ?_
          exact ⟨_, _, rfl, (by have := zt_0; omega), (by have := zt_0; omega), hJ, hb⟩
        · skip
          replace hb : zHd _ := hb.2 h5
          refine w_cne_f dX8_isImageOfBoy_160 (t := 178) rfl (by have := zt_1; omega) ?_
          refine w_lo dX8_isImageOfBoy_163 rfl rfl rfl rfl ?_
          obtain ⟨b6, f7, h8⟩ := zd_0_3 hJ.1
          have h9 := zDm_b h8
          refine w_gf dX8_isImageOfBoy_164 rfl hJ.1.1 zs_0 f7 ?_
          replace hb : zHd _ := hb b6 (ziR f7) (zDm_or h8)
          refine w_lo dX8_isImageOfBoy_167 rfl rfl rfl rfl ?_
          have h10 := hb.1
          replace hb : zHd _ := hb.2
          refine w_iv dX8_isImageOfBoy_168 rfl rfl (As := [.int v150_1]) rfl rfl hJ.1.1 (zs_1_0 h8) (Nat.le_of_ble_eq_true rfl) ?_
          refine ZV.imp (k_260 b6 h8 v150_1 (by omega) (by omega) hN hJ.1) ?_
          rintro _ ⟨x14, M11, rfl, h15, h16, hJ12, hq13⟩
          replace hb : zHd _ := hb x14.toInt h15 h16 (zi M11) (zi_fr hJ12.2)
          have hJ18 := zJ_trans hJ hJ12 zSub_nil
          show ZW _ _ _ _ _ _ _ (171, [some (.ref 0), some (.int v150_1), some (.int u150_2), some (.int v150_3), some (.int u150_4), some (.int u150_5), some (.int u150_6), some (.int 0)], [.int x14], M11)
          rcases Int.decEq x14.toInt (0 : Int) with h19 | h19
          · skip
            replace hb : zHd _ := hb.1 h19
            refine w_ine_t dX8_isImageOfBoy_171 (t := 178) rfl (by omega) ?_
            refine w_ic dX8_isImageOfBoy_178 zi_0 ?_
            refine w_en dX8_isImageOfBoy_179 rfl ?_
            exact ⟨_, _, rfl, (by have := zt_0; omega), (by have := zt_0; omega), hJ18, hb⟩
          · skip
            replace hb : zHd _ := hb.2 h19
            refine w_ine_f dX8_isImageOfBoy_171 (t := 178) rfl (by omega) ?_
            refine w_ic dX8_isImageOfBoy_174 zi_1 ?_
            refine w_gt dX8_isImageOfBoy_175 (t := 179) rfl ?_
            refine w_en dX8_isImageOfBoy_179 rfl ?_
            exact ⟨_, _, rfl, (by have := zt_1; omega), (by have := zt_1; omega), hJ18, hb⟩
  have hb : zHd _ := hbE
  show ZW _ _ _ _ _ _ _ (0, [some (.ref 0), some (.int a0), some (.int a1), none, none, none, none, none], [], M0)
  refine w_lo dX8_isImageOfBoy_0 rfl rfl rfl rfl ?_
  refine w_lo dX8_isImageOfBoy_1 rfl rfl rfl rfl ?_
  refine w_ic dX8_isImageOfBoy_2 zi_1 ?_
  refine w_puI dX8_isImageOfBoy_3 rfl rfl ?_
  intro x20
  replace hb : zHd _ := hb x20.toInt 
  refine w_iv dX8_isImageOfBoy_4 rfl rfl (As := [.int x20]) rfl rfl hJ0.1.1 zs_0 (Nat.le_of_ble_eq_true rfl) ?_
  obtain ⟨P23, hp24, hb⟩ := hb
  replace hb : zHd _ := hb
  refine ZV.imp (u_2092 x20 hN hJ0.1 hp24) ?_
  rintro _ ⟨x26, M21, rfl, h27, h28, hJ22, hq25⟩
  replace hb : zHd _ := hb x26.toInt h27 h28 (zi M21) (zi_fr hJ22.2) hq25
  have hJ30 := zJ_trans hJ0 hJ22 zSub_nil
  show ZW _ _ _ _ _ _ _ (7, [some (.ref 0), some (.int a0), some (.int a1), none, none, none, none, none], [.int x26], M21)
  refine w_lo (ml' := [some (.ref 0), some (.int a0), some (.int a1), some (.int x26), none, none, none, none]) dX8_isImageOfBoy_7 rfl rfl rfl rfl ?_
  refine w_lo dX8_isImageOfBoy_8 rfl rfl rfl rfl ?_
  refine w_lo dX8_isImageOfBoy_9 rfl rfl rfl rfl ?_
  refine w_ic dX8_isImageOfBoy_10 zi_2 ?_
  refine w_puI dX8_isImageOfBoy_11 rfl rfl ?_
  intro x31
  replace hb : zHd _ := hb x31.toInt 
  refine w_iv dX8_isImageOfBoy_12 rfl rfl (As := [.int x31]) rfl rfl hJ30.1.1 zs_0 (Nat.le_of_ble_eq_true rfl) ?_
  obtain ⟨P34, hp35, hb⟩ := hb
  replace hb : zHd _ := hb
  refine ZV.imp (u_2092 x31 hN hJ30.1 hp35) ?_
  rintro _ ⟨x37, M32, rfl, h38, h39, hJ33, hq36⟩
  replace hb : zHd _ := hb x37.toInt h38 h39 (zi M32) (zi_fr hJ33.2) hq36
  have hJ41 := zJ_trans hJ30 hJ33 zSub_nil
  show ZW _ _ _ _ _ _ _ (15, [some (.ref 0), some (.int a0), some (.int a1), some (.int x26), none, none, none, none], [.int x37], M32)
  refine w_ic dX8_isImageOfBoy_15 zi_1 ?_
  refine w_sub dX8_isImageOfBoy_16 (by have := zt_1; omega) ?_
  intro x42 h43
  have := zt_1
  replace hb : zHd _ := hb x42.toInt (by have := zt_1; omega)
  refine w_lo (ml' := [some (.ref 0), some (.int a0), some (.int a1), some (.int x26), some (.int x42), none, none, none]) dX8_isImageOfBoy_17 rfl rfl rfl rfl ?_
  refine w_lo dX8_isImageOfBoy_19 rfl rfl rfl rfl ?_
  refine w_lo dX8_isImageOfBoy_20 rfl rfl rfl rfl ?_
  refine w_ic dX8_isImageOfBoy_21 zi_3 ?_
  refine w_puI dX8_isImageOfBoy_22 rfl rfl ?_
  intro x44
  replace hb : zHd _ := hb x44.toInt 
  refine w_iv dX8_isImageOfBoy_23 rfl rfl (As := [.int x44]) rfl rfl hJ41.1.1 zs_0 (Nat.le_of_ble_eq_true rfl) ?_
  obtain ⟨P47, hp48, hb⟩ := hb
  replace hb : zHd _ := hb
  refine ZV.imp (u_2092 x44 hN hJ41.1 hp48) ?_
  rintro _ ⟨x50, M45, rfl, h51, h52, hJ46, hq49⟩
  replace hb : zHd _ := hb x50.toInt h51 h52 (zi M45) (zi_fr hJ46.2) hq49
  have hJ54 := zJ_trans hJ41 hJ46 zSub_nil
  show ZW _ _ _ _ _ _ _ (26, [some (.ref 0), some (.int a0), some (.int a1), some (.int x26), some (.int x42), none, none, none], [.int x50], M45)
  refine w_lo (ml' := [some (.ref 0), some (.int a0), some (.int a1), some (.int x26), some (.int x42), some (.int x50), none, none]) dX8_isImageOfBoy_26 rfl rfl rfl rfl ?_
  refine w_lo dX8_isImageOfBoy_28 rfl rfl rfl rfl ?_
  refine w_lo dX8_isImageOfBoy_29 rfl rfl rfl rfl ?_
  refine w_ic dX8_isImageOfBoy_30 zi_4 ?_
  refine w_puI dX8_isImageOfBoy_31 rfl rfl ?_
  intro x55
  replace hb : zHd _ := hb x55.toInt 
  refine w_iv dX8_isImageOfBoy_32 rfl rfl (As := [.int x55]) rfl rfl hJ54.1.1 zs_0 (Nat.le_of_ble_eq_true rfl) ?_
  obtain ⟨P58, hp59, hb⟩ := hb
  replace hb : zHd _ := hb
  refine ZV.imp (u_2092 x55 hN hJ54.1 hp59) ?_
  rintro _ ⟨x61, M56, rfl, h62, h63, hJ57, hq60⟩
  replace hb : zHd _ := hb x61.toInt h62 h63 (zi M56) (zi_fr hJ57.2) hq60
  have hJ65 := zJ_trans hJ54 hJ57 zSub_nil
  show ZW _ _ _ _ _ _ _ (35, [some (.ref 0), some (.int a0), some (.int a1), some (.int x26), some (.int x42), some (.int x50), none, none], [.int x61], M56)
  refine w_ic dX8_isImageOfBoy_35 zi_1 ?_
  refine w_sub dX8_isImageOfBoy_36 (by have := zt_1; omega) ?_
  intro x66 h67
  have := zt_1
  replace hb : zHd _ := hb x66.toInt (by have := zt_1; omega)
  refine w_lo (ml' := [some (.ref 0), some (.int a0), some (.int a1), some (.int x26), some (.int x42), some (.int x50), some (.int x66), none]) dX8_isImageOfBoy_37 rfl rfl rfl rfl ?_
  refine w_lo dX8_isImageOfBoy_39 rfl rfl rfl rfl ?_
  refine w_ic dX8_isImageOfBoy_40 zi_1 ?_
  rcases zcut (1 : Int) x26.toInt with h68 | h68
  · skip
    replace hb : zHd _ := hb.1 h68
    refine w_cgt_t dX8_isImageOfBoy_41 (t := 81) rfl (by have := zt_1; omega) ?_
    refine w_ic dX8_isImageOfBoy_81 zi_0 ?_
    refine w_en dX8_isImageOfBoy_82 rfl ?_
    exact ⟨_, _, rfl, (by have := zt_0; omega), (by have := zt_0; omega), hJ65, hb⟩
  · skip
    replace hb : zHd _ := hb.2 h68
    refine w_cgt_f dX8_isImageOfBoy_41 (t := 81) rfl (by have := zt_1; omega) ?_
    refine w_lo dX8_isImageOfBoy_44 rfl rfl rfl rfl ?_
    refine w_lo dX8_isImageOfBoy_46 rfl rfl rfl rfl ?_
    obtain ⟨b69, f70, h71⟩ := zd_0_3 hJ65.1
    have h72 := zDm_b h71
    refine w_gf dX8_isImageOfBoy_47 rfl hJ65.1.1 zs_0 f70 ?_
    replace hb : zHd _ := hb b69 (ziR f70) (zDm_or h71)
    refine w_gfi dX8_isImageOfBoy_50 rfl hJ65.1 (zs_1_0 h71) (Nat.le_of_ble_eq_true rfl) (zo_1_0_2 h71) ?_
    intro x73 f74 h75 h76
    replace hb : zHd _ := hb x73.toInt (ziE f74) h75 h76
    rcases zcut x42.toInt x73.toInt with h77 | h77
    · skip
      replace hb : zHd _ := hb.1 h77
      refine w_cge_f dX8_isImageOfBoy_53 (t := 81) rfl (by omega) ?_
      refine w_lo dX8_isImageOfBoy_56 rfl rfl rfl rfl ?_
      refine w_lo dX8_isImageOfBoy_58 rfl rfl rfl rfl ?_
      refine w_gf dX8_isImageOfBoy_59 rfl hJ65.1.1 zs_0 f70 ?_
      refine w_gf dX8_isImageOfBoy_62 rfl hJ65.1.1 (zs_1_0 h71) f74 ?_
      rcases zcut x66.toInt x73.toInt with h78 | h78
      · skip
        replace hb : zHd _ := hb.1 h78
        refine w_cge_f dX8_isImageOfBoy_65 (t := 81) rfl (by omega) ?_
        refine w_lo dX8_isImageOfBoy_68 rfl rfl rfl rfl ?_
        refine w_lo dX8_isImageOfBoy_69 rfl rfl rfl rfl ?_
        refine w_ic dX8_isImageOfBoy_70 zi_5 ?_
        refine w_puI dX8_isImageOfBoy_71 rfl rfl ?_
        intro x79
        replace hb : zHd _ := hb x79.toInt 
        refine w_iv dX8_isImageOfBoy_72 rfl rfl (As := [.int x79]) rfl rfl hJ65.1.1 zs_0 (Nat.le_of_ble_eq_true rfl) ?_
        obtain ⟨P82, hp83, hb⟩ := hb
        replace hb : zHd _ := hb
        refine ZV.imp (u_2091 x79 hN hJ65.1 hp83) ?_
        rintro _ ⟨x85, M80, rfl, h86, h87, hJ81, hq84⟩
        replace hb : zHd _ := hb x85.toInt h86 h87 (zi M80) (zi_fr hJ81.2) hq84
        have hJ89 := zJ_trans hJ65 hJ81 zSub_nil
        show ZW _ _ _ _ _ _ _ (75, [some (.ref 0), some (.int a0), some (.int a1), some (.int x26), some (.int x42), some (.int x50), some (.int x66), none], [.int x85], M80)
        refine w_si dX8_isImageOfBoy_75 (c := 9999) (by decide) ?_
        rcases zcut (9999 : Int) x85.toInt with h90 | h90
        · skip
          replace hb : zHd _ := hb.1 h90
          refine w_cle_f dX8_isImageOfBoy_78 (t := 83) rfl (by have := zt_9999; omega) ?_
          refine w_ic dX8_isImageOfBoy_81 zi_0 ?_
          refine w_en dX8_isImageOfBoy_82 rfl ?_
          exact ⟨_, _, rfl, (by have := zt_0; omega), (by have := zt_0; omega), hJ89, hb⟩
        · skip
          replace hb : zHd _ := hb.2 h90
          refine w_cle_t dX8_isImageOfBoy_78 (t := 83) rfl (by have := zt_9999; omega) ?_
          refine w_lo dX8_isImageOfBoy_83 rfl rfl rfl rfl ?_
          refine w_ic dX8_isImageOfBoy_85 zi_m1 ?_
          rcases Int.decEq x42.toInt (-1 : Int) with h91 | h91
          · skip
            replace hb : zHd _ := hb.1 h91
            refine w_cne_t dX8_isImageOfBoy_86 (t := 97) rfl (by have := zt_m1; omega) ?_
            refine w_lo dX8_isImageOfBoy_97 rfl rfl rfl rfl ?_
            refine w_ic dX8_isImageOfBoy_99 zi_1 ?_
            rcases zcut x50.toInt (1 : Int) with h92 | h92
            · skip
              replace hb : zHd _ := hb.1 h92
              refine w_clt_t dX8_isImageOfBoy_100 (t := 118) rfl (by have := zt_1; omega) ?_
              refine w_ic dX8_isImageOfBoy_118 zi_0 ?_
              refine w_en dX8_isImageOfBoy_119 rfl ?_
              exact ⟨_, _, rfl, (by have := zt_0; omega), (by have := zt_0; omega), hJ89, hb⟩
            · skip
              replace hb : zHd _ := hb.2 h92
              refine w_clt_f dX8_isImageOfBoy_100 (t := 118) rfl (by have := zt_1; omega) ?_
              refine w_lo dX8_isImageOfBoy_103 rfl rfl rfl rfl ?_
              refine w_lo dX8_isImageOfBoy_105 rfl rfl rfl rfl ?_
              have f93 := (hJ81.2 (0) 3 zNI_nil).trans (f70)
              refine w_gf dX8_isImageOfBoy_106 rfl hJ89.1.1 zs_0 f93 ?_
              refine w_gf dX8_isImageOfBoy_109 rfl hJ89.1.1 (zs_1_0 h71) (zr_1_0_11 h71 hJ89.1) ?_
              refine w_lo dX8_isImageOfBoy_112 rfl rfl rfl rfl ?_
              refine w_iai dX8_isImageOfBoy_114 hJ89.1 (zs_1_9 h71) (by omega) (by omega) (zu_1_9 h71) ?_
              intro x97 f94 h95 h96
              replace hb : zHd _ := hb x97.toInt (ziEk f94 rfl)
              rcases zcut x97.toInt x50.toInt with h98 | h98
              · skip
                replace hb : zHd _ := hb.1 h98
                refine w_cle_f dX8_isImageOfBoy_115 (t := 120) rfl (by omega) ?_
                refine w_ic dX8_isImageOfBoy_118 zi_0 ?_
                refine w_en dX8_isImageOfBoy_119 rfl ?_
                exact ⟨_, _, rfl, (by have := zt_0; omega), (by have := zt_0; omega), hJ89, hb⟩
              · skip
                replace hb : zHd _ := hb.2 h98
                refine w_cle_t dX8_isImageOfBoy_115 (t := 120) rfl (by omega) ?_
                obtain ⟨m, hI⟩ := hb
                exact (main m).1 M80 a0 a1 x26 x42 x50 x66 none hJ89 (zbot _) (ztop _) (by omega) (by omega) (by omega) (by omega) (by omega) (by omega) hI
          · skip
            replace hb : zHd _ := hb.2 h91
            refine w_cne_f dX8_isImageOfBoy_86 (t := 97) rfl (by have := zt_m1; omega) ?_
            refine w_lo dX8_isImageOfBoy_89 rfl rfl rfl rfl ?_
            rcases Int.decEq x50.toInt (0 : Int) with h99 | h99
            · skip
              replace hb : zHd _ := hb.1 h99
              refine w_ieq_f dX8_isImageOfBoy_91 (t := 120) rfl (by omega) ?_
              refine w_gt dX8_isImageOfBoy_94 (t := 118) rfl ?_
              refine w_ic dX8_isImageOfBoy_118 zi_0 ?_
              refine w_en dX8_isImageOfBoy_119 rfl ?_
              exact ⟨_, _, rfl, (by have := zt_0; omega), (by have := zt_0; omega), hJ89, hb⟩
            · skip
              replace hb : zHd _ := hb.2 h99
              refine w_ieq_t dX8_isImageOfBoy_91 (t := 120) rfl (by omega) ?_
              obtain ⟨m, hI⟩ := hb
              exact (main m).1 M80 a0 a1 x26 x42 x50 x66 none hJ89 (zbot _) (ztop _) (by omega) (by omega) (by omega) (by omega) (by omega) (by omega) hI
      · skip
        replace hb : zHd _ := hb.2 h78
        refine w_cge_t dX8_isImageOfBoy_65 (t := 81) rfl (by omega) ?_
        refine w_ic dX8_isImageOfBoy_81 zi_0 ?_
        refine w_en dX8_isImageOfBoy_82 rfl ?_
        exact ⟨_, _, rfl, (by have := zt_0; omega), (by have := zt_0; omega), hJ65, hb⟩
    · skip
      replace hb : zHd _ := hb.2 h77
      refine w_cge_t dX8_isImageOfBoy_53 (t := 81) rfl (by omega) ?_
      refine w_ic dX8_isImageOfBoy_81 zi_0 ?_
      refine w_en dX8_isImageOfBoy_82 rfl ?_
      exact ⟨_, _, rfl, (by have := zt_0; omega), (by have := zt_0; omega), hJ65, hb⟩
set_option maxRecDepth 100000 in
theorem u_2111 {X : List Int32} {d N : Nat} {M0 : zM} (a0 : Int32) (hN : N ≤ 600) (hB0 : zB N M0) {Q : Int → zF → Prop} (hb : b_2111 (zi M0) a0.toInt Q) : ZV X (d + 4) 2111 [.ref 0, .int a0] M0 (zRI N [] M0 (0) (1) (fun v M' => Q v.toInt (zi M'))) := by
  have hJ0 : zJ N [] M0 M0 := zJ_refl hB0
  refine ZV.of (ini := false) rfl (Nat.le_of_ble_eq_true rfl) (by decide +kernel) ?_
  obtain ⟨I77, I158, hbE, hb77, hb158⟩ := hb
  replace hbE : zHd _ := hbE
  replace hb77 : zHd _ := hb77
  replace hb158 : zHd _ := hb158
  have main : ∀ n : Nat,
      (∀ (M : zM) (u77_1 : Int32) (v77_2 : Int32) (u77_3 : Int32) (v77_4 : Int32) (v77_5 : Int32) (o77_6 : Option Value), zJ N [] M0 M → ((0 : Int) ≤ v77_2.toInt) → (v77_2.toInt ≤ 11) → ((0 : Int) ≤ v77_4.toInt) → (v77_4.toInt ≤ 4095) → ((0 : Int) ≤ v77_5.toInt) → (v77_5.toInt ≤ 12) → I77 n (zi M) v77_2.toInt v77_4.toInt v77_5.toInt → ZW X (d + 3) 8 false (some .boolean) cX8_isImage (zRI N [] M0 (0) (1) (fun v M' => Q v.toInt (zi M'))) (77, [some (.ref 0), some (.int u77_1), some (.int v77_2), some (.int u77_3), some (.int v77_4), some (.int v77_5), o77_6], [], M)) ∧
      (∀ (M : zM) (u158_1 : Int32) (v158_2 : Int32) (u158_3 : Int32) (u158_4 : Int32) (v158_5 : Int32) (o158_6 : Option Value), zJ N [] M0 M → ((0 : Int) ≤ v158_2.toInt) → (v158_2.toInt ≤ 11) → ((0 : Int) ≤ v158_5.toInt) → (v158_5.toInt ≤ 11) → I158 n (zi M) v158_2.toInt v158_5.toInt → ZW X (d + 3) 8 false (some .boolean) cX8_isImage (zRI N [] M0 (0) (1) (fun v M' => Q v.toInt (zi M'))) (158, [some (.ref 0), some (.int u158_1), some (.int v158_2), some (.int u158_3), some (.int u158_4), some (.int v158_5), o158_6], [], M)) := by
    intro n
    induction n using Nat.strongRecOn with
    | _ n ih =>
      refine ⟨?_, ?_⟩
      · intro M u77_1 v77_2 u77_3 v77_4 v77_5 o77_6 hJ v77_20 v77_21 v77_40 v77_41 v77_50 v77_51 hI
        have hb : zHd _ := hb77 n (zi M) v77_2.toInt v77_4.toInt v77_5.toInt (zi_fr hJ.2) v77_20 v77_21 v77_40 v77_41 v77_50 v77_51 hI
        refine w_lo dX8_isImage_77 rfl rfl rfl rfl ?_
        refine w_lo dX8_isImage_79 rfl rfl rfl rfl ?_
        refine w_gf dX8_isImage_80 rfl hJ.1.1 zs_0 (zr_0_4 hJ.1) ?_
        refine w_gfi dX8_isImage_83 rfl hJ.1 zs_49 (Nat.le_of_ble_eq_true rfl) zo_49_0 ?_
        intro x1 f2 h3 h4
        replace hb : zHd _ := hb x1.toInt (ziE f2) h3 h4
        rcases zcut v77_5.toInt x1.toInt with h5 | h5
        · skip
          replace hb : zHd _ := hb.1 h5
          refine w_cge_f dX8_isImage_86 (t := 155) rfl (by omega) ?_
          refine w_lo dX8_isImage_89 rfl rfl rfl rfl ?_
          refine w_ic dX8_isImage_90 zi_2 ?_
          refine w_bi dX8_isImage_91 (c := 7) (by decide) ?_
          refine w_lo dX8_isImage_93 rfl rfl rfl rfl ?_
          refine w_mulc dX8_isImage_95 zt_7 (by have := zt_7; omega) ?_
          intro x6 h7
          have := zt_7
          replace hb : zHd _ := hb x6.toInt (by have := zt_7; omega)
          refine w_add dX8_isImage_96 (by have := zt_2; omega) ?_
          intro x8 h9
          have := zt_2
          replace hb : zHd _ := hb x8.toInt (by have := zt_2; omega)
          refine w_iv dX8_isImage_97 rfl rfl (As := [.int x8]) rfl rfl hJ.1.1 zs_0 (Nat.le_of_ble_eq_true rfl) ?_
          obtain ⟨P12, hp13, hb⟩ := hb
          replace hb : zHd _ := hb
          refine ZV.imp (u_2092 x8 hN hJ.1 hp13) ?_
          rintro _ ⟨x15, M10, rfl, h16, h17, hJ11, hq14⟩
          replace hb : zHd _ := hb x15.toInt h16 h17 (zi M10) (zi_fr hJ11.2) hq14
          have hJ19 := zJ_trans hJ hJ11 zSub_nil
          show ZW _ _ _ _ _ _ _ (100, [some (.ref 0), some (.int u77_1), some (.int v77_2), some (.int u77_3), some (.int v77_4), some (.int v77_5), o77_6], [.int x15], M10)
          refine w_lo (ml' := [some (.ref 0), some (.int u77_1), some (.int v77_2), some (.int u77_3), some (.int v77_4), some (.int v77_5), some (.int x15)]) dX8_isImage_100 rfl rfl rfl rfl ?_
          refine w_lo dX8_isImage_102 rfl rfl rfl rfl ?_
          refine w_lo dX8_isImage_103 rfl rfl rfl rfl ?_
          refine w_iv dX8_isImage_105 rfl rfl (As := [.int x15]) rfl rfl hJ19.1.1 zs_0 (Nat.le_of_ble_eq_true rfl) ?_
          refine ZV.of (ini := false) rfl (Nat.le_of_ble_eq_true rfl) (by decide +kernel) ?_
          show ZW _ _ _ _ _ _ _ (0, [some (.ref 0), some (.int x15)], [], M10)
          refine w_lo dX8_isBoy_0 rfl rfl rfl rfl ?_
          refine w_ilt_f dX8_isBoy_1 (t := 19) rfl (by omega) ?_
          refine w_lo dX8_isBoy_4 rfl rfl rfl rfl ?_
          refine w_lo dX8_isBoy_5 rfl rfl rfl rfl ?_
          obtain ⟨b20, f21, h22⟩ := zd_0_3 hJ19.1
          have h23 := zDm_b h22
          refine w_gf dX8_isBoy_6 rfl hJ19.1.1 zs_0 f21 ?_
          replace hb : zHd _ := hb b20 (ziR f21) (zDm_or h22)
          refine w_gfi dX8_isBoy_9 rfl hJ19.1 (zs_1_0 h22) (Nat.le_of_ble_eq_true rfl) (zo_1_0_1 h22) ?_
          intro x24 f25 h26 h27
          replace hb : zHd _ := hb x24.toInt (ziE f25) h26 h27
          rcases zcut x15.toInt x24.toInt with h28 | h28
          · skip
            replace hb : zHd _ := hb.1 h28
            refine w_cge_f dX8_isBoy_12 (t := 19) rfl (by omega) ?_
            refine w_ic dX8_isBoy_15 zi_1 ?_
            refine w_gt dX8_isBoy_16 (t := 20) rfl ?_
            refine w_en dX8_isBoy_20 rfl ?_
            show ZW _ _ _ _ _ _ _ (108, [some (.ref 0), some (.int u77_1), some (.int v77_2), some (.int u77_3), some (.int v77_4), some (.int v77_5), some (.int x15)], [.int 1], M10)
            refine w_ieq_f dX8_isImage_108 (t := 138) rfl (by have := zt_1; omega) ?_
            refine w_lo dX8_isImage_111 rfl rfl rfl rfl ?_
            refine w_lo dX8_isImage_113 rfl rfl rfl rfl ?_
            refine w_puI dX8_isImage_115 rfl rfl ?_
            intro x29
            replace hb : zHd _ := hb x29.toInt 
            refine w_ic dX8_isImage_116 zi_1 ?_
            refine w_and dX8_isImage_117 (m := 1) zt_1 (by omega) ?_
            intro x30 h31 h32
            replace hb : zHd _ := hb x30.toInt h31 h32
            refine w_ic dX8_isImage_118 zi_1 ?_
            rcases Int.decEq x30.toInt (1 : Int) with h33 | h33
            · skip
              replace hb : zHd _ := hb.1 h33
              refine w_ceq_f dX8_isImage_119 (t := 138) rfl (by have := zt_1; omega) ?_
              refine w_lo dX8_isImage_122 rfl rfl rfl rfl ?_
              refine w_lo dX8_isImage_123 rfl rfl rfl rfl ?_
              refine w_ic dX8_isImage_125 zi_2 ?_
              refine w_bi dX8_isImage_126 (c := 7) (by decide) ?_
              refine w_lo dX8_isImage_128 rfl rfl rfl rfl ?_
              refine w_mulc dX8_isImage_130 zt_7 (by have := zt_7; omega) ?_
              intro x34 h35
              have := zt_7
              replace hb : zHd _ := hb x34.toInt (by have := zt_7; omega)
              refine w_add dX8_isImage_131 (by have := zt_2; omega) ?_
              intro x36 h37
              have := zt_2
              replace hb : zHd _ := hb x36.toInt (by have := zt_2; omega)
              refine w_iv dX8_isImage_132 rfl rfl (As := [.int x15, .int x36]) rfl rfl hJ19.1.1 zs_0 (Nat.le_of_ble_eq_true rfl) ?_
              obtain ⟨P40, hp41, hb⟩ := hb
              replace hb : zHd _ := hb
              refine ZV.imp (u_2112 x15 x36 hN hJ19.1 hp41) ?_
              rintro _ ⟨x43, M38, rfl, h44, h45, hJ39, hq42⟩
              replace hb : zHd _ := hb x43.toInt h44 h45 (zi M38) (zi_fr hJ39.2) hq42
              have hJ47 := zJ_trans hJ19 hJ39 zSub_nil
              show ZW _ _ _ _ _ _ _ (135, [some (.ref 0), some (.int u77_1), some (.int v77_2), some (.int u77_3), some (.int v77_4), some (.int v77_5), some (.int x15)], [.int x43], M38)
              rcases Int.decEq x43.toInt (0 : Int) with h48 | h48
              · skip
                replace hb : zHd _ := hb.1 h48
                refine w_ine_t dX8_isImage_135 (t := 140) rfl (by omega) ?_
                refine w_lo dX8_isImage_140 rfl rfl rfl rfl ?_
                refine w_ic dX8_isImage_142 zi_1 ?_
                refine w_lo dX8_isImage_143 rfl rfl rfl rfl ?_
                refine w_shl dX8_isImage_145 (by omega) (by omega) (m := 11) (by omega) ?_
                intro x49 h50 h51
                have : (2 : Int) ^ 11 = 2048 := by decide
                replace hb : zHd _ := hb x49.toInt h50 (by omega)
                refine w_or dX8_isImage_146 (m := 12) (by decide) (by omega) (by omega) (by omega) (by omega) ?_
                intro x52 h53 h54
                have : (2 : Int) ^ 12 = 4096 := by decide
                replace hb : zHd _ := hb x52.toInt h53 (by omega)
                refine w_lo (ml' := [some (.ref 0), some (.int u77_1), some (.int v77_2), some (.int u77_3), some (.int x52), some (.int v77_5), some (.int x15)]) dX8_isImage_147 rfl rfl rfl rfl ?_
                refine w_inc (kk := 5) dX8_isImage_149 rfl (m := 1) (by decide) (by omega) ?_
                intro x55 h56
                refine ⟨_, rfl, ?_⟩
                replace hb : zHd _ := hb x55.toInt h56
                show ZW _ _ _ _ _ _ _ (152, [some (.ref 0), some (.int u77_1), some (.int v77_2), some (.int u77_3), some (.int x52), some (.int x55), some (.int x15)], [], M38)
                refine w_gt dX8_isImage_152 (t := 77) rfl ?_
                obtain ⟨m, hm, hI⟩ := hb
                exact (ih m hm).1 M38 u77_1 v77_2 u77_3 x52 x55 (some (.int x15)) hJ47 (by omega) (by omega) (by omega) (by omega) (by omega) (by omega) hI
              · skip
                replace hb : zHd _ := hb.2 h48
                refine w_ine_f dX8_isImage_135 (t := 140) rfl (by omega) ?_
                refine w_ic dX8_isImage_138 zi_0 ?_
                refine w_en dX8_isImage_139 rfl ?_
                exact ⟨_, _, rfl, (by have := zt_0; omega), (by have := zt_0; omega), hJ47, hb⟩
            · skip
              replace hb : zHd _ := hb.2 h33
              refine w_ceq_t dX8_isImage_119 (t := 138) rfl (by have := zt_1; omega) ?_
              refine w_ic dX8_isImage_138 zi_0 ?_
              refine w_en dX8_isImage_139 rfl ?_
              exact ⟨_, _, rfl, (by have := zt_0; omega), (by have := zt_0; omega), hJ19, hb⟩
          · skip
            replace hb : zHd _ := hb.2 h28
            refine w_cge_t dX8_isBoy_12 (t := 19) rfl (by omega) ?_
            refine w_ic dX8_isBoy_19 zi_0 ?_
            refine w_en dX8_isBoy_20 rfl ?_
            show ZW _ _ _ _ _ _ _ (108, [some (.ref 0), some (.int u77_1), some (.int v77_2), some (.int u77_3), some (.int v77_4), some (.int v77_5), some (.int x15)], [.int 0], M10)
            refine w_ieq_t dX8_isImage_108 (t := 138) rfl (by have := zt_0; omega) ?_
            refine w_ic dX8_isImage_138 zi_0 ?_
            refine w_en dX8_isImage_139 rfl ?_
            exact ⟨_, _, rfl, (by have := zt_0; omega), (by have := zt_0; omega), hJ19, hb⟩
        · skip
          replace hb : zHd _ := hb.2 h5
          refine w_cge_t dX8_isImage_86 (t := 155) rfl (by omega) ?_
          refine w_ic dX8_isImage_155 zi_0 ?_
          refine w_lo (ml' := [some (.ref 0), some (.int u77_1), some (.int v77_2), some (.int u77_3), some (.int v77_4), some (.int 0), o77_6]) dX8_isImage_156 rfl rfl rfl rfl ?_
          obtain ⟨m, hm, hI⟩ := hb
          exact (ih m hm).2 M u77_1 v77_2 u77_3 v77_4 0 o77_6 hJ (by omega) (by omega) (by have := zt_0; omega) (by have := zt_0; omega) hI
      · intro M u158_1 v158_2 u158_3 u158_4 v158_5 o158_6 hJ v158_20 v158_21 v158_50 v158_51 hI
        have hb : zHd _ := hb158 n (zi M) v158_2.toInt v158_5.toInt (zi_fr hJ.2) v158_20 v158_21 v158_50 v158_51 hI
        refine w_lo dX8_isImage_158 rfl rfl rfl rfl ?_
        refine w_lo dX8_isImage_160 rfl rfl rfl rfl ?_
        rcases zcut v158_5.toInt v158_2.toInt with h57 | h57
        · skip
          replace hb : zHd _ := hb.1 h57
          refine w_cge_f dX8_isImage_161 (t := 214) rfl (by omega) ?_
          refine w_ic dX8_isImage_164 zi_2 ?_
          refine w_bi dX8_isImage_165 (c := 7) (by decide) ?_
          refine w_lo dX8_isImage_167 rfl rfl rfl rfl ?_
          refine w_gf dX8_isImage_168 rfl hJ.1.1 zs_0 (zr_0_4 hJ.1) ?_
          refine w_gfi dX8_isImage_171 rfl hJ.1 zs_49 (Nat.le_of_ble_eq_true rfl) zo_49_0 ?_
          intro x58 f59 h60 h61
          replace hb : zHd _ := hb x58.toInt (ziE f59) h60 h61
          refine w_mulc dX8_isImage_174 zt_7 (by have := zt_7; omega) ?_
          intro x62 h63
          have := zt_7
          replace hb : zHd _ := hb x62.toInt (by have := zt_7; omega)
          refine w_add dX8_isImage_175 (by have := zt_2; omega) ?_
          intro x64 h65
          have := zt_2
          replace hb : zHd _ := hb x64.toInt (by have := zt_2; omega)
          refine w_ic dX8_isImage_176 zi_2 ?_
          refine w_lo dX8_isImage_177 rfl rfl rfl rfl ?_
          refine w_mulc dX8_isImage_179 zt_2 (by have := zt_2; omega) ?_
          intro x66 h67
          have := zt_2
          replace hb : zHd _ := hb x66.toInt (by have := zt_2; omega)
          refine w_add dX8_isImage_180 (by omega) ?_
          intro x68 h69
          replace hb : zHd _ := hb x68.toInt (by omega)
          refine w_lo (ml' := [some (.ref 0), some (.int u158_1), some (.int v158_2), some (.int u158_3), some (.int u158_4), some (.int v158_5), some (.int x68)]) dX8_isImage_181 rfl rfl rfl rfl ?_
          refine w_lo dX8_isImage_183 rfl rfl rfl rfl ?_
          refine w_lo dX8_isImage_184 rfl rfl rfl rfl ?_
          refine w_iv dX8_isImage_186 rfl rfl (As := [.int x68]) rfl rfl hJ.1.1 zs_0 (Nat.le_of_ble_eq_true rfl) ?_
          obtain ⟨P72, hp73, hb⟩ := hb
          replace hb : zHd _ := hb
          refine ZV.imp (u_2092 x68 hN hJ.1 hp73) ?_
          rintro _ ⟨x75, M70, rfl, h76, h77, hJ71, hq74⟩
          replace hb : zHd _ := hb x75.toInt h76 h77 (zi M70) (zi_fr hJ71.2) hq74
          have hJ79 := zJ_trans hJ hJ71 zSub_nil
          show ZW _ _ _ _ _ _ _ (189, [some (.ref 0), some (.int u158_1), some (.int v158_2), some (.int u158_3), some (.int u158_4), some (.int v158_5), some (.int x68)], [.int x75], M70)
          refine w_ic dX8_isImage_189 zi_1 ?_
          rcases zcut (1 : Int) x75.toInt with h80 | h80
          · skip
            replace hb : zHd _ := hb.1 h80
            refine w_cgt_t dX8_isImage_190 (t := 206) rfl (by have := zt_1; omega) ?_
            refine w_ic dX8_isImage_206 zi_0 ?_
            refine w_en dX8_isImage_207 rfl ?_
            exact ⟨_, _, rfl, (by have := zt_0; omega), (by have := zt_0; omega), hJ79, hb⟩
          · skip
            replace hb : zHd _ := hb.2 h80
            refine w_cgt_f dX8_isImage_190 (t := 206) rfl (by have := zt_1; omega) ?_
            refine w_lo dX8_isImage_193 rfl rfl rfl rfl ?_
            refine w_lo dX8_isImage_194 rfl rfl rfl rfl ?_
            refine w_ic dX8_isImage_196 zi_1 ?_
            refine w_add dX8_isImage_197 (by have := zt_1; omega) ?_
            intro x81 h82
            have := zt_1
            replace hb : zHd _ := hb x81.toInt (by have := zt_1; omega)
            refine w_iv dX8_isImage_198 rfl rfl (As := [.int x81]) rfl rfl hJ79.1.1 zs_0 (Nat.le_of_ble_eq_true rfl) ?_
            obtain ⟨P85, hp86, hb⟩ := hb
            replace hb : zHd _ := hb
            refine ZV.imp (u_2092 x81 hN hJ79.1 hp86) ?_
            rintro _ ⟨x88, M83, rfl, h89, h90, hJ84, hq87⟩
            replace hb : zHd _ := hb x88.toInt h89 h90 (zi M83) (zi_fr hJ84.2) hq87
            have hJ92 := zJ_trans hJ79 hJ84 zSub_nil
            show ZW _ _ _ _ _ _ _ (201, [some (.ref 0), some (.int u158_1), some (.int v158_2), some (.int u158_3), some (.int u158_4), some (.int v158_5), some (.int x68)], [.int x88], M83)
            refine w_bi dX8_isImage_201 (c := 99) (by decide) ?_
            rcases zcut (99 : Int) x88.toInt with h93 | h93
            · skip
              replace hb : zHd _ := hb.1 h93
              refine w_cle_f dX8_isImage_203 (t := 208) rfl (by have := zt_99; omega) ?_
              refine w_ic dX8_isImage_206 zi_0 ?_
              refine w_en dX8_isImage_207 rfl ?_
              exact ⟨_, _, rfl, (by have := zt_0; omega), (by have := zt_0; omega), hJ92, hb⟩
            · skip
              replace hb : zHd _ := hb.2 h93
              refine w_cle_t dX8_isImage_203 (t := 208) rfl (by have := zt_99; omega) ?_
              refine w_inc (kk := 5) dX8_isImage_208 rfl (m := 1) (by decide) (by omega) ?_
              intro x94 h95
              refine ⟨_, rfl, ?_⟩
              replace hb : zHd _ := hb x94.toInt h95
              show ZW _ _ _ _ _ _ _ (211, [some (.ref 0), some (.int u158_1), some (.int v158_2), some (.int u158_3), some (.int u158_4), some (.int x94), some (.int x68)], [], M83)
              refine w_gt dX8_isImage_211 (t := 158) rfl ?_
              obtain ⟨m, hm, hI⟩ := hb
              exact (ih m hm).2 M83 u158_1 v158_2 u158_3 u158_4 x94 (some (.int x68)) hJ92 (by omega) (by omega) (by omega) (by omega) hI
        · skip
          replace hb : zHd _ := hb.2 h57
          refine w_cge_t dX8_isImage_161 (t := 214) rfl (by omega) ?_
          refine w_ic dX8_isImage_214 zi_1 ?_
          refine w_en dX8_isImage_215 rfl ?_
          exact ⟨_, _, rfl, (by have := zt_1; omega), (by have := zt_1; omega), hJ, hb⟩
  have hb : zHd _ := hbE
  show ZW _ _ _ _ _ _ _ (0, [some (.ref 0), some (.int a0), none, none, none, none, none], [], M0)
  refine w_ic dX8_isImage_0 zi_0 ?_
  refine w_lo dX8_isImage_1 rfl rfl rfl rfl ?_
  refine w_gf dX8_isImage_2 rfl hJ0.1.1 zs_0 (zr_0_4 hJ0.1) ?_
  refine w_gfi dX8_isImage_5 rfl hJ0.1 zs_49 (Nat.le_of_ble_eq_true rfl) zo_49_0 ?_
  intro x96 f97 h98 h99
  replace hb : zHd _ := hb x96.toInt (ziE f97) h98 h99
  refine w_ic dX8_isImage_8 zi_1 ?_
  refine w_sub dX8_isImage_9 (by have := zt_1; omega) ?_
  intro x100 h101
  have := zt_1
  replace hb : zHd _ := hb x100.toInt (by have := zt_1; omega)
  refine w_mxI dX8_isImage_10 rfl (Nat.le_of_ble_eq_true rfl) ?_
  intro x102 h103 h104 h105
  have := zt_0
  replace hb : zHd _ := hb x102.toInt (by omega) (by omega) (by omega)
  show ZW _ _ _ _ _ _ _ (13, [some (.ref 0), some (.int a0), none, none, none, none, none], [.int x102], M0)
  refine w_lo (ml' := [some (.ref 0), some (.int a0), some (.int x102), none, none, none, none]) dX8_isImage_13 rfl rfl rfl rfl ?_
  refine w_ic dX8_isImage_14 zi_2 ?_
  refine w_bi dX8_isImage_15 (c := 7) (by decide) ?_
  refine w_lo dX8_isImage_17 rfl rfl rfl rfl ?_
  refine w_gf dX8_isImage_18 rfl hJ0.1.1 zs_0 (zr_0_4 hJ0.1) ?_
  refine w_gf dX8_isImage_21 rfl hJ0.1.1 zs_49 f97 ?_
  refine w_mulc dX8_isImage_24 zt_7 (by have := zt_7; omega) ?_
  intro x106 h107
  have := zt_7
  replace hb : zHd _ := hb x106.toInt (by have := zt_7; omega)
  refine w_add dX8_isImage_25 (by have := zt_2; omega) ?_
  intro x108 h109
  have := zt_2
  replace hb : zHd _ := hb x108.toInt (by have := zt_2; omega)
  refine w_ic dX8_isImage_26 zi_2 ?_
  refine w_lo dX8_isImage_27 rfl rfl rfl rfl ?_
  refine w_mulc dX8_isImage_28 zt_2 (by have := zt_2; omega) ?_
  intro x110 h111
  have := zt_2
  replace hb : zHd _ := hb x110.toInt (by have := zt_2; omega)
  refine w_add dX8_isImage_29 (by omega) ?_
  intro x112 h113
  replace hb : zHd _ := hb x112.toInt (by omega)
  refine w_ic dX8_isImage_30 zi_1 ?_
  refine w_add dX8_isImage_31 (by have := zt_1; omega) ?_
  intro x114 h115
  have := zt_1
  replace hb : zHd _ := hb x114.toInt (by have := zt_1; omega)
  refine w_lo (ml' := [some (.ref 0), some (.int a0), some (.int x102), some (.int x114), none, none, none]) dX8_isImage_32 rfl rfl rfl rfl ?_
  refine w_lo dX8_isImage_33 rfl rfl rfl rfl ?_
  refine w_lo dX8_isImage_34 rfl rfl rfl rfl ?_
  rcases Int.decEq a0.toInt x114.toInt with h116 | h116
  · skip
    replace hb : zHd _ := hb.1 h116
    refine w_cne_t dX8_isImage_35 (t := 69) rfl (by omega) ?_
    refine w_ic dX8_isImage_69 zi_0 ?_
    refine w_en dX8_isImage_70 rfl ?_
    exact ⟨_, _, rfl, (by have := zt_0; omega), (by have := zt_0; omega), hJ0, hb⟩
  · skip
    replace hb : zHd _ := hb.2 h116
    refine w_cne_f dX8_isImage_35 (t := 69) rfl (by omega) ?_
    refine w_lo dX8_isImage_38 rfl rfl rfl rfl ?_
    refine w_lo dX8_isImage_39 rfl rfl rfl rfl ?_
    refine w_ic dX8_isImage_40 zi_1 ?_
    refine w_sub dX8_isImage_41 (by have := zt_1; omega) ?_
    intro x117 h118
    have := zt_1
    replace hb : zHd _ := hb x117.toInt (by have := zt_1; omega)
    refine w_iv dX8_isImage_42 rfl rfl (As := [.int x117]) rfl rfl hJ0.1.1 zs_0 (Nat.le_of_ble_eq_true rfl) ?_
    obtain ⟨P121, hp122, hb⟩ := hb
    replace hb : zHd _ := hb
    refine ZV.imp (u_2092 x117 hN hJ0.1 hp122) ?_
    rintro _ ⟨x124, M119, rfl, h125, h126, hJ120, hq123⟩
    replace hb : zHd _ := hb x124.toInt h125 h126 (zi M119) (zi_fr hJ120.2) hq123
    have hJ128 := zJ_trans hJ0 hJ120 zSub_nil
    show ZW _ _ _ _ _ _ _ (45, [some (.ref 0), some (.int a0), some (.int x102), some (.int x114), none, none, none], [.int x124], M119)
    refine w_lo dX8_isImage_45 rfl rfl rfl rfl ?_
    refine w_gf dX8_isImage_46 rfl hJ128.1.1 zs_0 (zr_0_0 hJ128.1) ?_
    refine w_lo dX8_isImage_49 rfl rfl rfl rfl ?_
    refine w_ic dX8_isImage_50 zi_1 ?_
    refine w_sub dX8_isImage_51 (by have := zt_1; omega) ?_
    intro x129 h130
    have := zt_1
    replace hb : zHd _ := hb x129.toInt (by have := zt_1; omega)
    refine w_ss dX8_isImage_52 rfl rfl (As := [.ref 1, .int x129]) rfl rfl (Nat.le_of_ble_eq_true rfl) ?_
    refine ZV.imp (k_2108 1 _ _ _ zs_1 zu_1 (Nat.le_of_ble_eq_true rfl) (by decide) (by decide) x129 (by omega) (by omega) hN hJ128.1) ?_
    rintro _ ⟨x134, M131, rfl, h135, h136, hJ132, hq133⟩
    replace hb : zHd _ := hb x134.toInt  (zi M131) (zi_fr hJ132.2)
    have hJ138 := zJ_trans hJ128 hJ132 zSub_nil
    show ZW _ _ _ _ _ _ _ (55, [some (.ref 0), some (.int a0), some (.int x102), some (.int x114), none, none, none], [.int x134, .int x124], M131)
    rcases Int.decEq x124.toInt x134.toInt with h139 | h139
    · skip
      replace hb : zHd _ := hb.1 h139
      refine w_cne_t dX8_isImage_55 (t := 69) rfl (by omega) ?_
      refine w_ic dX8_isImage_69 zi_0 ?_
      refine w_en dX8_isImage_70 rfl ?_
      exact ⟨_, _, rfl, (by have := zt_0; omega), (by have := zt_0; omega), hJ138, hb⟩
    · skip
      replace hb : zHd _ := hb.2 h139
      refine w_cne_f dX8_isImage_55 (t := 69) rfl (by omega) ?_
      refine w_lo dX8_isImage_58 rfl rfl rfl rfl ?_
      refine w_ic dX8_isImage_59 zi_0 ?_
      refine w_iv dX8_isImage_60 rfl rfl (As := [.int 0]) rfl rfl hJ138.1.1 zs_0 (Nat.le_of_ble_eq_true rfl) ?_
      obtain ⟨P142, hp143, hb⟩ := hb
      replace hb : zHd _ := hb
      have hp143c : b_2091 (zi M131) (0 : Int32).toInt P142 := by rw [zt_0]; exact hp143
      refine ZV.imp (u_2091 0 hN hJ138.1 hp143c) ?_
      rintro _ ⟨x145, M140, rfl, h146, h147, hJ141, hq144⟩
      replace hb : zHd _ := hb x145.toInt h146 h147 (zi M140) (zi_fr hJ141.2) hq144
      have hJ149 := zJ_trans hJ138 hJ141 zSub_nil
      show ZW _ _ _ _ _ _ _ (63, [some (.ref 0), some (.int a0), some (.int x102), some (.int x114), none, none, none], [.int x145], M140)
      refine w_si dX8_isImage_63 (c := 999) (by decide) ?_
      rcases zcut (999 : Int) x145.toInt with h150 | h150
      · skip
        replace hb : zHd _ := hb.1 h150
        refine w_cle_f dX8_isImage_66 (t := 71) rfl (by have := zt_999; omega) ?_
        refine w_ic dX8_isImage_69 zi_0 ?_
        refine w_en dX8_isImage_70 rfl ?_
        exact ⟨_, _, rfl, (by have := zt_0; omega), (by have := zt_0; omega), hJ149, hb⟩
      · skip
        replace hb : zHd _ := hb.2 h150
        refine w_cle_t dX8_isImage_66 (t := 71) rfl (by have := zt_999; omega) ?_
        refine w_ic dX8_isImage_71 zi_0 ?_
        refine w_lo (ml' := [some (.ref 0), some (.int a0), some (.int x102), some (.int x114), some (.int 0), none, none]) dX8_isImage_72 rfl rfl rfl rfl ?_
        refine w_ic dX8_isImage_74 zi_0 ?_
        refine w_lo (ml' := [some (.ref 0), some (.int a0), some (.int x102), some (.int x114), some (.int 0), some (.int 0), none]) dX8_isImage_75 rfl rfl rfl rfl ?_
        obtain ⟨m, hI⟩ := hb
        exact (main m).1 M140 a0 x102 x114 0 0 none hJ149 (by omega) (by omega) (by have := zt_0; omega) (by have := zt_0; omega) (by have := zt_0; omega) (by have := zt_0; omega) hI
set_option maxRecDepth 100000 in
theorem u_2110 {X : List Int32} {d N : Nat} {M0 : zM}  (hN : N ≤ 600) (hB0 : zB N M0) {Q : Int → zF → Prop} (hb : b_2110 (zi M0) Q) : ZV X (d + 5) 2110 [.ref 0] M0 (zRI N [(49, 50, 0), (77, 78, 0), (0, 1, 1), (49, 50, 1), (50, 62, 1000), (385, 386, 1000), (0, 1, 11), (49, 50, 14), (0, 1, 15)] M0 (0) (1) (fun v M' => Q v.toInt (zi M'))) := by
  have hJ0 : zJ N [(49, 50, 0), (77, 78, 0), (0, 1, 1), (49, 50, 1), (50, 62, 1000), (385, 386, 1000), (0, 1, 11), (49, 50, 14), (0, 1, 15)] M0 M0 := zJ_refl hB0
  refine ZV.of (ini := false) rfl (Nat.le_of_ble_eq_true rfl) (by decide +kernel) ?_
  obtain ⟨I50, I192, hbE, hb50, hb192⟩ := hb
  replace hbE : zHd _ := hbE
  replace hb50 : zHd _ := hb50
  replace hb192 : zHd _ := hb192
  have main : ∀ n : Nat,
      (∀ (M : zM) (u50_1 : Int32) (v50_2 : Int32) (o50_3 : Option Value) (o50_4 : Option Value), zJ N [(49, 50, 0), (77, 78, 0), (0, 1, 1), (49, 50, 1), (50, 62, 1000), (385, 386, 1000), (0, 1, 11), (49, 50, 14), (0, 1, 15)] M0 M → ((0 : Int) ≤ v50_2.toInt) → (v50_2.toInt ≤ 12) → I50 n (zi M) v50_2.toInt → ZW X (d + 4) 8 false (some .boolean) cX8_on (zRI N [(49, 50, 0), (77, 78, 0), (0, 1, 1), (49, 50, 1), (50, 62, 1000), (385, 386, 1000), (0, 1, 11), (49, 50, 14), (0, 1, 15)] M0 (0) (1) (fun v M' => Q v.toInt (zi M'))) (50, [some (.ref 0), some (.int u50_1), some (.int v50_2), o50_3, o50_4], [], M)) ∧
      (∀ (M : zM) (u192_1 : Int32) (v192_2 : Int32) (o192_3 : Option Value) (o192_4 : Option Value), zJ N [(49, 50, 0), (77, 78, 0), (0, 1, 1), (49, 50, 1), (50, 62, 1000), (385, 386, 1000), (0, 1, 11), (49, 50, 14), (0, 1, 15)] M0 M → ((0 : Int) ≤ v192_2.toInt) → (v192_2.toInt ≤ 11) → I192 n (zi M) v192_2.toInt → ZW X (d + 4) 8 false (some .boolean) cX8_on (zRI N [(49, 50, 0), (77, 78, 0), (0, 1, 1), (49, 50, 1), (50, 62, 1000), (385, 386, 1000), (0, 1, 11), (49, 50, 14), (0, 1, 15)] M0 (0) (1) (fun v M' => Q v.toInt (zi M'))) (192, [some (.ref 0), some (.int u192_1), some (.int v192_2), o192_3, o192_4], [], M)) := by
    intro n
    induction n using Nat.strongRecOn with
    | _ n ih =>
      refine ⟨?_, ?_⟩
      · intro M u50_1 v50_2 o50_3 o50_4 hJ v50_20 v50_21 hI
        have hb : zHd _ := hb50 n (zi M) v50_2.toInt (zi_fr hJ.2) v50_20 v50_21 hI
        refine w_lo dX8_on_50 rfl rfl rfl rfl ?_
        refine w_lo dX8_on_51 rfl rfl rfl rfl ?_
        refine w_gf dX8_on_52 rfl hJ.1.1 zs_0 (zr_0_4 hJ.1) ?_
        refine w_gfi dX8_on_55 rfl hJ.1 zs_49 (Nat.le_of_ble_eq_true rfl) zo_49_0 ?_
        intro x1 f2 h3 h4
        replace hb : zHd _ := hb x1.toInt (ziE f2) h3 h4
        rcases zcut v50_2.toInt x1.toInt with h5 | h5
        · skip
          replace hb : zHd _ := hb.1 h5
          refine w_cge_f dX8_on_58 (t := 190) rfl (by omega) ?_
          refine w_ic dX8_on_61 zi_2 ?_
          refine w_bi dX8_on_62 (c := 7) (by decide) ?_
          refine w_lo dX8_on_64 rfl rfl rfl rfl ?_
          refine w_mulc dX8_on_65 zt_7 (by have := zt_7; omega) ?_
          intro x6 h7
          have := zt_7
          replace hb : zHd _ := hb x6.toInt (by have := zt_7; omega)
          refine w_add dX8_on_66 (by have := zt_2; omega) ?_
          intro x8 h9
          have := zt_2
          replace hb : zHd _ := hb x8.toInt (by have := zt_2; omega)
          refine w_lo (ml' := [some (.ref 0), some (.int u50_1), some (.int v50_2), some (.int x8), o50_4]) dX8_on_67 rfl rfl rfl rfl ?_
          refine w_lo dX8_on_68 rfl rfl rfl rfl ?_
          refine w_lo dX8_on_69 rfl rfl rfl rfl ?_
          refine w_iv dX8_on_70 rfl rfl (As := [.int x8]) rfl rfl hJ.1.1 zs_0 (Nat.le_of_ble_eq_true rfl) ?_
          obtain ⟨P12, hp13, hb⟩ := hb
          replace hb : zHd _ := hb
          refine ZV.imp (u_2092 x8 hN hJ.1 hp13) ?_
          rintro _ ⟨x15, M10, rfl, h16, h17, hJ11, hq14⟩
          replace hb : zHd _ := hb x15.toInt h16 h17 (zi M10) (zi_fr hJ11.2) hq14
          have hJ19 := zJ_trans hJ hJ11 zSub_nil
          show ZW _ _ _ _ _ _ _ (73, [some (.ref 0), some (.int u50_1), some (.int v50_2), some (.int x8), o50_4], [.int x15], M10)
          refine w_lo (ml' := [some (.ref 0), some (.int u50_1), some (.int v50_2), some (.int x8), some (.int x15)]) dX8_on_73 rfl rfl rfl rfl ?_
          refine w_lo dX8_on_75 rfl rfl rfl rfl ?_
          refine w_gf dX8_on_76 rfl hJ19.1.1 zs_0 (zr_0_4 hJ19.1) ?_
          refine w_gf dX8_on_79 rfl hJ19.1.1 zs_49 (zr_49_2 hJ19.1) ?_
          refine w_lo dX8_on_82 rfl rfl rfl rfl ?_
          refine w_lo dX8_on_83 rfl rfl rfl rfl ?_
          have h20 := hb.1
          replace hb : zHd _ := hb.2
          refine w_isi dX8_on_85 hJ19 zs_50 (by omega) (by omega) zu_50 (by omega) (by omega) (zIR_s (zIR_s (zIR_s (zIR_s (zIR_a (by omega) (by omega)))))) ?_
          intro M21 hJ22 f23 hn24
          replace hb : zHd _ := hb (zi M21) (zi_zup hn24 f23 rfl rfl)
          refine w_lo dX8_on_86 rfl rfl rfl rfl ?_
          refine w_gf dX8_on_87 rfl hJ22.1.1 zs_0 (zr_0_4 hJ22.1) ?_
          refine w_gf dX8_on_90 rfl hJ22.1.1 zs_49 (zr_49_3 hJ22.1) ?_
          refine w_lo dX8_on_93 rfl rfl rfl rfl ?_
          refine w_lo dX8_on_95 rfl rfl rfl rfl ?_
          refine w_lo dX8_on_96 rfl rfl rfl rfl ?_
          refine w_ic dX8_on_97 zi_1 ?_
          refine w_add dX8_on_98 (by have := zt_1; omega) ?_
          intro x26 h27
          have := zt_1
          replace hb : zHd _ := hb x26.toInt (by have := zt_1; omega)
          refine w_iv dX8_on_99 rfl rfl (As := [.int x26]) rfl rfl hJ22.1.1 zs_0 (Nat.le_of_ble_eq_true rfl) ?_
          obtain ⟨P30, hp31, hb⟩ := hb
          replace hb : zHd _ := hb
          refine ZV.imp (u_2092 x26 hN hJ22.1 hp31) ?_
          rintro _ ⟨x33, M28, rfl, h34, h35, hJ29, hq32⟩
          replace hb : zHd _ := hb x33.toInt h34 h35 (zi M28) (zi_fr hJ29.2) hq32
          have hJ37 := zJ_trans hJ22 hJ29 zSub_nil
          show ZW _ _ _ _ _ _ _ (102, [some (.ref 0), some (.int u50_1), some (.int v50_2), some (.int x8), some (.int x15)], [.int x33, .int x15, .ref 51], M28)
          refine w_ic dX8_on_102 zi_1 ?_
          rcases Int.decEq x33.toInt (1 : Int) with h38 | h38
          · skip
            replace hb : zHd _ := hb.1 h38
            refine w_cne_t dX8_on_103 (t := 110) rfl (by have := zt_1; omega) ?_
            refine w_ic dX8_on_110 zi_0 ?_
            refine w_bsi dX8_on_111 hJ37 zs_51 (by omega) (by omega) zu_51 (by have := zt_0; omega) (by have := zt_0; omega) (zIR_s (zIR_s (zIR_s (zIR_s (zIR_a (by omega) (by omega)))))) ?_
            intro M39 hJ40 f41 hn42
            replace hb : zHd _ := hb (zi M39) (zi_zup hn42 f41 rfl zt_0)
            refine w_lo dX8_on_112 rfl rfl rfl rfl ?_
            refine w_gf dX8_on_113 rfl hJ40.1.1 zs_0 (zr_0_4 hJ40.1) ?_
            refine w_gf dX8_on_116 rfl hJ40.1.1 zs_49 (zr_49_4 hJ40.1) ?_
            refine w_lo dX8_on_119 rfl rfl rfl rfl ?_
            refine w_lo dX8_on_121 rfl rfl rfl rfl ?_
            refine w_lo dX8_on_122 rfl rfl rfl rfl ?_
            refine w_ic dX8_on_123 zi_2 ?_
            refine w_add dX8_on_124 (by have := zt_2; omega) ?_
            intro x44 h45
            have := zt_2
            replace hb : zHd _ := hb x44.toInt (by have := zt_2; omega)
            refine w_iv dX8_on_125 rfl rfl (As := [.int x44]) rfl rfl hJ40.1.1 zs_0 (Nat.le_of_ble_eq_true rfl) ?_
            obtain ⟨P48, hp49, hb⟩ := hb
            replace hb : zHd _ := hb
            refine ZV.imp (u_2092 x44 hN hJ40.1 hp49) ?_
            rintro _ ⟨x51, M46, rfl, h52, h53, hJ47, hq50⟩
            replace hb : zHd _ := hb x51.toInt h52 h53 (zi M46) (zi_fr hJ47.2) hq50
            have hJ55 := zJ_trans hJ40 hJ47 zSub_nil
            show ZW _ _ _ _ _ _ _ (128, [some (.ref 0), some (.int u50_1), some (.int v50_2), some (.int x8), some (.int x15)], [.int x51, .int x15, .ref 52], M46)
            refine w_ic dX8_on_128 zi_1 ?_
            refine w_sub dX8_on_129 (by have := zt_1; omega) ?_
            intro x56 h57
            have := zt_1
            replace hb : zHd _ := hb x56.toInt (by have := zt_1; omega)
            have h58 := hb.1
            replace hb : zHd _ := hb.2
            refine w_isi dX8_on_130 hJ55 zs_52 (by omega) (by omega) zu_52 (by omega) (by omega) (zIR_s (zIR_s (zIR_s (zIR_s (zIR_a (by omega) (by omega)))))) ?_
            intro M59 hJ60 f61 hn62
            replace hb : zHd _ := hb (zi M59) (zi_zup hn62 f61 rfl rfl)
            refine w_lo dX8_on_131 rfl rfl rfl rfl ?_
            refine w_gf dX8_on_132 rfl hJ60.1.1 zs_0 (zr_0_4 hJ60.1) ?_
            refine w_gf dX8_on_135 rfl hJ60.1.1 zs_49 (zr_49_5 hJ60.1) ?_
            refine w_lo dX8_on_138 rfl rfl rfl rfl ?_
            refine w_lo dX8_on_140 rfl rfl rfl rfl ?_
            refine w_lo dX8_on_141 rfl rfl rfl rfl ?_
            refine w_ic dX8_on_142 zi_3 ?_
            refine w_add dX8_on_143 (by have := zt_3; omega) ?_
            intro x64 h65
            have := zt_3
            replace hb : zHd _ := hb x64.toInt (by have := zt_3; omega)
            refine w_iv dX8_on_144 rfl rfl (As := [.int x64]) rfl rfl hJ60.1.1 zs_0 (Nat.le_of_ble_eq_true rfl) ?_
            obtain ⟨P68, hp69, hb⟩ := hb
            replace hb : zHd _ := hb
            refine ZV.imp (u_2092 x64 hN hJ60.1 hp69) ?_
            rintro _ ⟨x71, M66, rfl, h72, h73, hJ67, hq70⟩
            replace hb : zHd _ := hb x71.toInt h72 h73 (zi M66) (zi_fr hJ67.2) hq70
            have hJ75 := zJ_trans hJ60 hJ67 zSub_nil
            show ZW _ _ _ _ _ _ _ (147, [some (.ref 0), some (.int u50_1), some (.int v50_2), some (.int x8), some (.int x15)], [.int x71, .int x15, .ref 53], M66)
            refine w_isi dX8_on_147 hJ75 zs_53 (by omega) (by omega) zu_53 (zbot _) (ztop _) (zIR_s (zIR_s (zIR_s (zIR_s (zIR_a (by omega) (by omega)))))) ?_
            intro M76 hJ77 f78 hn79
            replace hb : zHd _ := hb (zi M76) (zi_zup hn79 f78 rfl rfl)
            refine w_lo dX8_on_148 rfl rfl rfl rfl ?_
            refine w_gf dX8_on_149 rfl hJ77.1.1 zs_0 (zr_0_4 hJ77.1) ?_
            refine w_gf dX8_on_152 rfl hJ77.1.1 zs_49 (zr_49_6 hJ77.1) ?_
            refine w_lo dX8_on_155 rfl rfl rfl rfl ?_
            refine w_lo dX8_on_157 rfl rfl rfl rfl ?_
            refine w_lo dX8_on_158 rfl rfl rfl rfl ?_
            refine w_ic dX8_on_159 zi_4 ?_
            refine w_add dX8_on_160 (by have := zt_4; omega) ?_
            intro x81 h82
            have := zt_4
            replace hb : zHd _ := hb x81.toInt (by have := zt_4; omega)
            refine w_iv dX8_on_161 rfl rfl (As := [.int x81]) rfl rfl hJ77.1.1 zs_0 (Nat.le_of_ble_eq_true rfl) ?_
            obtain ⟨P85, hp86, hb⟩ := hb
            replace hb : zHd _ := hb
            refine ZV.imp (u_2092 x81 hN hJ77.1 hp86) ?_
            rintro _ ⟨x88, M83, rfl, h89, h90, hJ84, hq87⟩
            replace hb : zHd _ := hb x88.toInt h89 h90 (zi M83) (zi_fr hJ84.2) hq87
            have hJ92 := zJ_trans hJ77 hJ84 zSub_nil
            show ZW _ _ _ _ _ _ _ (164, [some (.ref 0), some (.int u50_1), some (.int v50_2), some (.int x8), some (.int x15)], [.int x88, .int x15, .ref 54], M83)
            refine w_ic dX8_on_164 zi_1 ?_
            refine w_sub dX8_on_165 (by have := zt_1; omega) ?_
            intro x93 h94
            have := zt_1
            replace hb : zHd _ := hb x93.toInt (by have := zt_1; omega)
            have h95 := hb.1
            replace hb : zHd _ := hb.2
            refine w_isi dX8_on_166 hJ92 zs_54 (by omega) (by omega) zu_54 (by omega) (by omega) (zIR_s (zIR_s (zIR_s (zIR_s (zIR_a (by omega) (by omega)))))) ?_
            intro M96 hJ97 f98 hn99
            replace hb : zHd _ := hb (zi M96) (zi_zup hn99 f98 rfl rfl)
            refine w_lo dX8_on_167 rfl rfl rfl rfl ?_
            refine w_gf dX8_on_168 rfl hJ97.1.1 zs_0 (zr_0_4 hJ97.1) ?_
            refine w_gf dX8_on_171 rfl hJ97.1.1 zs_49 (zr_49_9 hJ97.1) ?_
            refine w_lo dX8_on_174 rfl rfl rfl rfl ?_
            refine w_lo dX8_on_176 rfl rfl rfl rfl ?_
            refine w_lo dX8_on_177 rfl rfl rfl rfl ?_
            refine w_ic dX8_on_178 zi_5 ?_
            refine w_add dX8_on_179 (by have := zt_5; omega) ?_
            intro x101 h102
            have := zt_5
            replace hb : zHd _ := hb x101.toInt (by have := zt_5; omega)
            refine w_iv dX8_on_180 rfl rfl (As := [.int x101]) rfl rfl hJ97.1.1 zs_0 (Nat.le_of_ble_eq_true rfl) ?_
            obtain ⟨P105, hp106, hb⟩ := hb
            replace hb : zHd _ := hb
            refine ZV.imp (u_2091 x101 hN hJ97.1 hp106) ?_
            rintro _ ⟨x108, M103, rfl, h109, h110, hJ104, hq107⟩
            replace hb : zHd _ := hb x108.toInt h109 h110 (zi M103) (zi_fr hJ104.2) hq107
            have hJ112 := zJ_trans hJ97 hJ104 zSub_nil
            show ZW _ _ _ _ _ _ _ (183, [some (.ref 0), some (.int u50_1), some (.int v50_2), some (.int x8), some (.int x15)], [.int x108, .int x15, .ref 57], M103)
            refine w_isi dX8_on_183 hJ112 zs_57 (by omega) (by omega) zu_57 (zbot _) (ztop _) (zIR_s (zIR_s (zIR_s (zIR_s (zIR_a (by omega) (by omega)))))) ?_
            intro M113 hJ114 f115 hn116
            replace hb : zHd _ := hb (zi M113) (zi_zup hn116 f115 rfl rfl)
            refine w_inc (kk := 2) dX8_on_184 rfl (m := 1) (by decide) (by omega) ?_
            intro x118 h119
            refine ⟨_, rfl, ?_⟩
            replace hb : zHd _ := hb x118.toInt h119
            show ZW _ _ _ _ _ _ _ (187, [some (.ref 0), some (.int u50_1), some (.int x118), some (.int x8), some (.int x15)], [], M113)
            refine w_gt dX8_on_187 (t := 50) rfl ?_
            obtain ⟨m, hm, hI⟩ := hb
            exact (ih m hm).1 M113 u50_1 x118 (some (.int x8)) (some (.int x15)) hJ114 (by omega) (by omega) hI
          · skip
            replace hb : zHd _ := hb.2 h38
            refine w_cne_f dX8_on_103 (t := 110) rfl (by have := zt_1; omega) ?_
            refine w_ic dX8_on_106 zi_1 ?_
            refine w_gt dX8_on_107 (t := 111) rfl ?_
            refine w_bsi dX8_on_111 hJ37 zs_51 (by omega) (by omega) zu_51 (by have := zt_1; omega) (by have := zt_1; omega) (zIR_s (zIR_s (zIR_s (zIR_s (zIR_a (by omega) (by omega)))))) ?_
            intro M120 hJ121 f122 hn123
            replace hb : zHd _ := hb (zi M120) (zi_zup hn123 f122 rfl zt_1)
            refine w_lo dX8_on_112 rfl rfl rfl rfl ?_
            refine w_gf dX8_on_113 rfl hJ121.1.1 zs_0 (zr_0_4 hJ121.1) ?_
            refine w_gf dX8_on_116 rfl hJ121.1.1 zs_49 (zr_49_4 hJ121.1) ?_
            refine w_lo dX8_on_119 rfl rfl rfl rfl ?_
            refine w_lo dX8_on_121 rfl rfl rfl rfl ?_
            refine w_lo dX8_on_122 rfl rfl rfl rfl ?_
            refine w_ic dX8_on_123 zi_2 ?_
            refine w_add dX8_on_124 (by have := zt_2; omega) ?_
            intro x125 h126
            have := zt_2
            replace hb : zHd _ := hb x125.toInt (by have := zt_2; omega)
            refine w_iv dX8_on_125 rfl rfl (As := [.int x125]) rfl rfl hJ121.1.1 zs_0 (Nat.le_of_ble_eq_true rfl) ?_
            obtain ⟨P129, hp130, hb⟩ := hb
            replace hb : zHd _ := hb
            refine ZV.imp (u_2092 x125 hN hJ121.1 hp130) ?_
            rintro _ ⟨x132, M127, rfl, h133, h134, hJ128, hq131⟩
            replace hb : zHd _ := hb x132.toInt h133 h134 (zi M127) (zi_fr hJ128.2) hq131
            have hJ136 := zJ_trans hJ121 hJ128 zSub_nil
            show ZW _ _ _ _ _ _ _ (128, [some (.ref 0), some (.int u50_1), some (.int v50_2), some (.int x8), some (.int x15)], [.int x132, .int x15, .ref 52], M127)
            refine w_ic dX8_on_128 zi_1 ?_
            refine w_sub dX8_on_129 (by have := zt_1; omega) ?_
            intro x137 h138
            have := zt_1
            replace hb : zHd _ := hb x137.toInt (by have := zt_1; omega)
            have h139 := hb.1
            replace hb : zHd _ := hb.2
            refine w_isi dX8_on_130 hJ136 zs_52 (by omega) (by omega) zu_52 (by omega) (by omega) (zIR_s (zIR_s (zIR_s (zIR_s (zIR_a (by omega) (by omega)))))) ?_
            intro M140 hJ141 f142 hn143
            replace hb : zHd _ := hb (zi M140) (zi_zup hn143 f142 rfl rfl)
            refine w_lo dX8_on_131 rfl rfl rfl rfl ?_
            refine w_gf dX8_on_132 rfl hJ141.1.1 zs_0 (zr_0_4 hJ141.1) ?_
            refine w_gf dX8_on_135 rfl hJ141.1.1 zs_49 (zr_49_5 hJ141.1) ?_
            refine w_lo dX8_on_138 rfl rfl rfl rfl ?_
            refine w_lo dX8_on_140 rfl rfl rfl rfl ?_
            refine w_lo dX8_on_141 rfl rfl rfl rfl ?_
            refine w_ic dX8_on_142 zi_3 ?_
            refine w_add dX8_on_143 (by have := zt_3; omega) ?_
            intro x145 h146
            have := zt_3
            replace hb : zHd _ := hb x145.toInt (by have := zt_3; omega)
            refine w_iv dX8_on_144 rfl rfl (As := [.int x145]) rfl rfl hJ141.1.1 zs_0 (Nat.le_of_ble_eq_true rfl) ?_
            obtain ⟨P149, hp150, hb⟩ := hb
            replace hb : zHd _ := hb
            refine ZV.imp (u_2092 x145 hN hJ141.1 hp150) ?_
            rintro _ ⟨x152, M147, rfl, h153, h154, hJ148, hq151⟩
            replace hb : zHd _ := hb x152.toInt h153 h154 (zi M147) (zi_fr hJ148.2) hq151
            have hJ156 := zJ_trans hJ141 hJ148 zSub_nil
            show ZW _ _ _ _ _ _ _ (147, [some (.ref 0), some (.int u50_1), some (.int v50_2), some (.int x8), some (.int x15)], [.int x152, .int x15, .ref 53], M147)
            refine w_isi dX8_on_147 hJ156 zs_53 (by omega) (by omega) zu_53 (zbot _) (ztop _) (zIR_s (zIR_s (zIR_s (zIR_s (zIR_a (by omega) (by omega)))))) ?_
            intro M157 hJ158 f159 hn160
            replace hb : zHd _ := hb (zi M157) (zi_zup hn160 f159 rfl rfl)
            refine w_lo dX8_on_148 rfl rfl rfl rfl ?_
            refine w_gf dX8_on_149 rfl hJ158.1.1 zs_0 (zr_0_4 hJ158.1) ?_
            refine w_gf dX8_on_152 rfl hJ158.1.1 zs_49 (zr_49_6 hJ158.1) ?_
            refine w_lo dX8_on_155 rfl rfl rfl rfl ?_
            refine w_lo dX8_on_157 rfl rfl rfl rfl ?_
            refine w_lo dX8_on_158 rfl rfl rfl rfl ?_
            refine w_ic dX8_on_159 zi_4 ?_
            refine w_add dX8_on_160 (by have := zt_4; omega) ?_
            intro x162 h163
            have := zt_4
            replace hb : zHd _ := hb x162.toInt (by have := zt_4; omega)
            refine w_iv dX8_on_161 rfl rfl (As := [.int x162]) rfl rfl hJ158.1.1 zs_0 (Nat.le_of_ble_eq_true rfl) ?_
            obtain ⟨P166, hp167, hb⟩ := hb
            replace hb : zHd _ := hb
            refine ZV.imp (u_2092 x162 hN hJ158.1 hp167) ?_
            rintro _ ⟨x169, M164, rfl, h170, h171, hJ165, hq168⟩
            replace hb : zHd _ := hb x169.toInt h170 h171 (zi M164) (zi_fr hJ165.2) hq168
            have hJ173 := zJ_trans hJ158 hJ165 zSub_nil
            show ZW _ _ _ _ _ _ _ (164, [some (.ref 0), some (.int u50_1), some (.int v50_2), some (.int x8), some (.int x15)], [.int x169, .int x15, .ref 54], M164)
            refine w_ic dX8_on_164 zi_1 ?_
            refine w_sub dX8_on_165 (by have := zt_1; omega) ?_
            intro x174 h175
            have := zt_1
            replace hb : zHd _ := hb x174.toInt (by have := zt_1; omega)
            have h176 := hb.1
            replace hb : zHd _ := hb.2
            refine w_isi dX8_on_166 hJ173 zs_54 (by omega) (by omega) zu_54 (by omega) (by omega) (zIR_s (zIR_s (zIR_s (zIR_s (zIR_a (by omega) (by omega)))))) ?_
            intro M177 hJ178 f179 hn180
            replace hb : zHd _ := hb (zi M177) (zi_zup hn180 f179 rfl rfl)
            refine w_lo dX8_on_167 rfl rfl rfl rfl ?_
            refine w_gf dX8_on_168 rfl hJ178.1.1 zs_0 (zr_0_4 hJ178.1) ?_
            refine w_gf dX8_on_171 rfl hJ178.1.1 zs_49 (zr_49_9 hJ178.1) ?_
            refine w_lo dX8_on_174 rfl rfl rfl rfl ?_
            refine w_lo dX8_on_176 rfl rfl rfl rfl ?_
            refine w_lo dX8_on_177 rfl rfl rfl rfl ?_
            refine w_ic dX8_on_178 zi_5 ?_
            refine w_add dX8_on_179 (by have := zt_5; omega) ?_
            intro x182 h183
            have := zt_5
            replace hb : zHd _ := hb x182.toInt (by have := zt_5; omega)
            refine w_iv dX8_on_180 rfl rfl (As := [.int x182]) rfl rfl hJ178.1.1 zs_0 (Nat.le_of_ble_eq_true rfl) ?_
            obtain ⟨P186, hp187, hb⟩ := hb
            replace hb : zHd _ := hb
            refine ZV.imp (u_2091 x182 hN hJ178.1 hp187) ?_
            rintro _ ⟨x189, M184, rfl, h190, h191, hJ185, hq188⟩
            replace hb : zHd _ := hb x189.toInt h190 h191 (zi M184) (zi_fr hJ185.2) hq188
            have hJ193 := zJ_trans hJ178 hJ185 zSub_nil
            show ZW _ _ _ _ _ _ _ (183, [some (.ref 0), some (.int u50_1), some (.int v50_2), some (.int x8), some (.int x15)], [.int x189, .int x15, .ref 57], M184)
            refine w_isi dX8_on_183 hJ193 zs_57 (by omega) (by omega) zu_57 (zbot _) (ztop _) (zIR_s (zIR_s (zIR_s (zIR_s (zIR_a (by omega) (by omega)))))) ?_
            intro M194 hJ195 f196 hn197
            replace hb : zHd _ := hb (zi M194) (zi_zup hn197 f196 rfl rfl)
            refine w_inc (kk := 2) dX8_on_184 rfl (m := 1) (by decide) (by omega) ?_
            intro x199 h200
            refine ⟨_, rfl, ?_⟩
            replace hb : zHd _ := hb x199.toInt h200
            show ZW _ _ _ _ _ _ _ (187, [some (.ref 0), some (.int u50_1), some (.int x199), some (.int x8), some (.int x15)], [], M194)
            refine w_gt dX8_on_187 (t := 50) rfl ?_
            obtain ⟨m, hm, hI⟩ := hb
            exact (ih m hm).1 M194 u50_1 x199 (some (.int x8)) (some (.int x15)) hJ195 (by omega) (by omega) hI
        · skip
          replace hb : zHd _ := hb.2 h5
          refine w_cge_t dX8_on_58 (t := 190) rfl (by omega) ?_
          refine w_ic dX8_on_190 zi_0 ?_
          refine w_lo (ml' := [some (.ref 0), some (.int u50_1), some (.int 0), o50_3, o50_4]) dX8_on_191 rfl rfl rfl rfl ?_
          obtain ⟨m, hm, hI⟩ := hb
          exact (ih m hm).2 M u50_1 0 o50_3 o50_4 hJ (by have := zt_0; omega) (by have := zt_0; omega) hI
      · intro M u192_1 v192_2 o192_3 o192_4 hJ v192_20 v192_21 hI
        have hb : zHd _ := hb192 n (zi M) v192_2.toInt (zi_fr hJ.2) v192_20 v192_21 hI
        refine w_lo dX8_on_192 rfl rfl rfl rfl ?_
        refine w_lo dX8_on_193 rfl rfl rfl rfl ?_
        refine w_gf dX8_on_194 rfl hJ.1.1 zs_0 (zr_0_4 hJ.1) ?_
        refine w_gfi dX8_on_197 rfl hJ.1 zs_49 (Nat.le_of_ble_eq_true rfl) zo_49_0 ?_
        intro x201 f202 h203 h204
        replace hb : zHd _ := hb x201.toInt (ziE f202) h203 h204
        refine w_ic dX8_on_200 zi_1 ?_
        refine w_sub dX8_on_201 (by have := zt_1; omega) ?_
        intro x205 h206
        have := zt_1
        replace hb : zHd _ := hb x205.toInt (by have := zt_1; omega)
        rcases zcut v192_2.toInt x205.toInt with h207 | h207
        · skip
          replace hb : zHd _ := hb.1 h207
          refine w_cge_f dX8_on_202 (t := 267) rfl (by omega) ?_
          refine w_ic dX8_on_205 zi_2 ?_
          refine w_bi dX8_on_206 (c := 7) (by decide) ?_
          refine w_lo dX8_on_208 rfl rfl rfl rfl ?_
          refine w_gf dX8_on_209 rfl hJ.1.1 zs_0 (zr_0_4 hJ.1) ?_
          refine w_gf dX8_on_212 rfl hJ.1.1 zs_49 f202 ?_
          refine w_mulc dX8_on_215 zt_7 (by have := zt_7; omega) ?_
          intro x208 h209
          have := zt_7
          replace hb : zHd _ := hb x208.toInt (by have := zt_7; omega)
          refine w_add dX8_on_216 (by have := zt_2; omega) ?_
          intro x210 h211
          have := zt_2
          replace hb : zHd _ := hb x210.toInt (by have := zt_2; omega)
          refine w_ic dX8_on_217 zi_2 ?_
          refine w_lo dX8_on_218 rfl rfl rfl rfl ?_
          refine w_mulc dX8_on_219 zt_2 (by have := zt_2; omega) ?_
          intro x212 h213
          have := zt_2
          replace hb : zHd _ := hb x212.toInt (by have := zt_2; omega)
          refine w_add dX8_on_220 (by omega) ?_
          intro x214 h215
          replace hb : zHd _ := hb x214.toInt (by omega)
          refine w_lo (ml' := [some (.ref 0), some (.int u192_1), some (.int v192_2), some (.int x214), o192_4]) dX8_on_221 rfl rfl rfl rfl ?_
          refine w_lo dX8_on_222 rfl rfl rfl rfl ?_
          refine w_gf dX8_on_223 rfl hJ.1.1 zs_0 (zr_0_4 hJ.1) ?_
          refine w_gf dX8_on_226 rfl hJ.1.1 zs_49 (zr_49_12 hJ.1) ?_
          refine w_lo dX8_on_229 rfl rfl rfl rfl ?_
          refine w_lo dX8_on_230 rfl rfl rfl rfl ?_
          refine w_lo dX8_on_231 rfl rfl rfl rfl ?_
          refine w_iv dX8_on_232 rfl rfl (As := [.int x214]) rfl rfl hJ.1.1 zs_0 (Nat.le_of_ble_eq_true rfl) ?_
          obtain ⟨P218, hp219, hb⟩ := hb
          replace hb : zHd _ := hb
          refine ZV.imp (u_2092 x214 hN hJ.1 hp219) ?_
          rintro _ ⟨x221, M216, rfl, h222, h223, hJ217, hq220⟩
          replace hb : zHd _ := hb x221.toInt h222 h223 (zi M216) (zi_fr hJ217.2) hq220
          have hJ225 := zJ_trans hJ hJ217 zSub_nil
          show ZW _ _ _ _ _ _ _ (235, [some (.ref 0), some (.int u192_1), some (.int v192_2), some (.int x214), o192_4], [.int x221, .int v192_2, .ref 60], M216)
          refine w_ic dX8_on_235 zi_1 ?_
          rcases Int.decEq x221.toInt (1 : Int) with h226 | h226
          · skip
            replace hb : zHd _ := hb.1 h226
            refine w_cne_t dX8_on_236 (t := 243) rfl (by have := zt_1; omega) ?_
            refine w_ic dX8_on_243 zi_0 ?_
            refine w_bsi dX8_on_244 hJ225 zs_60 (by omega) (by omega) zu_60 (by have := zt_0; omega) (by have := zt_0; omega) (zIR_s (zIR_s (zIR_s (zIR_s (zIR_a (by omega) (by omega)))))) ?_
            intro M227 hJ228 f229 hn230
            replace hb : zHd _ := hb (zi M227) (zi_zup hn230 f229 rfl zt_0)
            refine w_lo dX8_on_245 rfl rfl rfl rfl ?_
            refine w_gf dX8_on_246 rfl hJ228.1.1 zs_0 (zr_0_4 hJ228.1) ?_
            refine w_gf dX8_on_249 rfl hJ228.1.1 zs_49 (zr_49_13 hJ228.1) ?_
            refine w_lo dX8_on_252 rfl rfl rfl rfl ?_
            refine w_lo dX8_on_253 rfl rfl rfl rfl ?_
            refine w_lo dX8_on_254 rfl rfl rfl rfl ?_
            refine w_ic dX8_on_255 zi_1 ?_
            refine w_add dX8_on_256 (by have := zt_1; omega) ?_
            intro x232 h233
            have := zt_1
            replace hb : zHd _ := hb x232.toInt (by have := zt_1; omega)
            refine w_iv dX8_on_257 rfl rfl (As := [.int x232]) rfl rfl hJ228.1.1 zs_0 (Nat.le_of_ble_eq_true rfl) ?_
            obtain ⟨P236, hp237, hb⟩ := hb
            replace hb : zHd _ := hb
            refine ZV.imp (u_2092 x232 hN hJ228.1 hp237) ?_
            rintro _ ⟨x239, M234, rfl, h240, h241, hJ235, hq238⟩
            replace hb : zHd _ := hb x239.toInt h240 h241 (zi M234) (zi_fr hJ235.2) hq238
            have hJ243 := zJ_trans hJ228 hJ235 zSub_nil
            show ZW _ _ _ _ _ _ _ (260, [some (.ref 0), some (.int u192_1), some (.int v192_2), some (.int x214), o192_4], [.int x239, .int v192_2, .ref 61], M234)
            refine w_isi dX8_on_260 hJ243 zs_61 (by omega) (by omega) zu_61 (by omega) (by omega) (zIR_s (zIR_s (zIR_s (zIR_s (zIR_a (by omega) (by omega)))))) ?_
            intro M244 hJ245 f246 hn247
            replace hb : zHd _ := hb (zi M244) (zi_zup hn247 f246 rfl rfl)
            refine w_inc (kk := 2) dX8_on_261 rfl (m := 1) (by decide) (by omega) ?_
            intro x249 h250
            refine ⟨_, rfl, ?_⟩
            replace hb : zHd _ := hb x249.toInt h250
            show ZW _ _ _ _ _ _ _ (264, [some (.ref 0), some (.int u192_1), some (.int x249), some (.int x214), o192_4], [], M244)
            refine w_gt dX8_on_264 (t := 192) rfl ?_
            obtain ⟨m, hm, hI⟩ := hb
            exact (ih m hm).2 M244 u192_1 x249 (some (.int x214)) o192_4 hJ245 (by omega) (by omega) hI
          · skip
            replace hb : zHd _ := hb.2 h226
            refine w_cne_f dX8_on_236 (t := 243) rfl (by have := zt_1; omega) ?_
            refine w_ic dX8_on_239 zi_1 ?_
            refine w_gt dX8_on_240 (t := 244) rfl ?_
            refine w_bsi dX8_on_244 hJ225 zs_60 (by omega) (by omega) zu_60 (by have := zt_1; omega) (by have := zt_1; omega) (zIR_s (zIR_s (zIR_s (zIR_s (zIR_a (by omega) (by omega)))))) ?_
            intro M251 hJ252 f253 hn254
            replace hb : zHd _ := hb (zi M251) (zi_zup hn254 f253 rfl zt_1)
            refine w_lo dX8_on_245 rfl rfl rfl rfl ?_
            refine w_gf dX8_on_246 rfl hJ252.1.1 zs_0 (zr_0_4 hJ252.1) ?_
            refine w_gf dX8_on_249 rfl hJ252.1.1 zs_49 (zr_49_13 hJ252.1) ?_
            refine w_lo dX8_on_252 rfl rfl rfl rfl ?_
            refine w_lo dX8_on_253 rfl rfl rfl rfl ?_
            refine w_lo dX8_on_254 rfl rfl rfl rfl ?_
            refine w_ic dX8_on_255 zi_1 ?_
            refine w_add dX8_on_256 (by have := zt_1; omega) ?_
            intro x256 h257
            have := zt_1
            replace hb : zHd _ := hb x256.toInt (by have := zt_1; omega)
            refine w_iv dX8_on_257 rfl rfl (As := [.int x256]) rfl rfl hJ252.1.1 zs_0 (Nat.le_of_ble_eq_true rfl) ?_
            obtain ⟨P260, hp261, hb⟩ := hb
            replace hb : zHd _ := hb
            refine ZV.imp (u_2092 x256 hN hJ252.1 hp261) ?_
            rintro _ ⟨x263, M258, rfl, h264, h265, hJ259, hq262⟩
            replace hb : zHd _ := hb x263.toInt h264 h265 (zi M258) (zi_fr hJ259.2) hq262
            have hJ267 := zJ_trans hJ252 hJ259 zSub_nil
            show ZW _ _ _ _ _ _ _ (260, [some (.ref 0), some (.int u192_1), some (.int v192_2), some (.int x214), o192_4], [.int x263, .int v192_2, .ref 61], M258)
            refine w_isi dX8_on_260 hJ267 zs_61 (by omega) (by omega) zu_61 (by omega) (by omega) (zIR_s (zIR_s (zIR_s (zIR_s (zIR_a (by omega) (by omega)))))) ?_
            intro M268 hJ269 f270 hn271
            replace hb : zHd _ := hb (zi M268) (zi_zup hn271 f270 rfl rfl)
            refine w_inc (kk := 2) dX8_on_261 rfl (m := 1) (by decide) (by omega) ?_
            intro x273 h274
            refine ⟨_, rfl, ?_⟩
            replace hb : zHd _ := hb x273.toInt h274
            show ZW _ _ _ _ _ _ _ (264, [some (.ref 0), some (.int u192_1), some (.int x273), some (.int x214), o192_4], [], M268)
            refine w_gt dX8_on_264 (t := 192) rfl ?_
            obtain ⟨m, hm, hI⟩ := hb
            exact (ih m hm).2 M268 u192_1 x273 (some (.int x214)) o192_4 hJ269 (by omega) (by omega) hI
        · skip
          replace hb : zHd _ := hb.2 h207
          refine w_cge_t dX8_on_202 (t := 267) rfl (by omega) ?_
          refine w_lo dX8_on_267 rfl rfl rfl rfl ?_
          refine w_gf dX8_on_268 rfl hJ.1.1 zs_0 (zr_0_6 hJ.1) ?_
          refine w_iv dX8_on_271 rfl rfl (As := []) rfl rfl hJ.1.1 zs_77 (Nat.le_of_ble_eq_true rfl) ?_
          obtain ⟨P277, hp278, hb⟩ := hb
          replace hb : zHd _ := hb
          refine ZV.imp (u_1 hN hJ.1 hp278) ?_
          rintro _ ⟨M275, rfl, hJ276, hq279⟩
          replace hb : zHd _ := hb  (zi M275) (zi_fr hJ276.2) hq279
          have hJ281 := zJ_trans hJ hJ276 (zSub_cons (fun _ _ h h' hk => zIR_s (zIR_e (by omega) (by omega) hk)) zSub_nil)
          show ZW _ _ _ _ _ _ _ (274, [some (.ref 0), some (.int u192_1), some (.int v192_2), o192_3, o192_4], [], M275)
          refine w_lo dX8_on_274 rfl rfl rfl rfl ?_
          refine w_ic dX8_on_275 zi_0 ?_
          refine w_pfi dX8_on_276 rfl hJ281 zs_0 (Nat.le_of_ble_eq_true rfl) zo_0_11 (by have := zt_0; omega) (by have := zt_0; omega) (zIR_s (zIR_s (zIR_s (zIR_s (zIR_s (zIR_s (zIR_k (by omega) (by omega)))))))) rfl rfl rfl ?_
          intro M282 hJ283 f284 hn285
          replace hb : zHd _ := hb (zi M282) (zi_zup hn285 f284 rfl zt_0)
          refine w_lo dX8_on_279 rfl rfl rfl rfl ?_
          refine w_pu dX8_on_280 rfl rfl ?_
          refine w_gfi dX8_on_281 rfl hJ283.1 zs_0 (Nat.le_of_ble_eq_true rfl) zo_0_15 ?_
          intro x287 f288 h289 h290
          replace hb : zHd _ := hb x287.toInt (ziE f288)
          refine w_ic dX8_on_284 zi_1 ?_
          refine w_puI dX8_on_285 rfl rfl ?_
          intro x291
          replace hb : zHd _ := hb x291.toInt 
          refine w_pfi dX8_on_286 rfl hJ283 zs_0 (Nat.le_of_ble_eq_true rfl) zo_0_15 (zbot _) (ztop _) (zIR_s (zIR_s (zIR_s (zIR_s (zIR_s (zIR_s (zIR_s (zIR_s (zIR_k (by omega) (by omega)))))))))) rfl rfl rfl ?_
          intro M292 hJ293 f294 hn295
          replace hb : zHd _ := hb (zi M292) (zi_zup hn295 f294 rfl rfl)
          refine w_ic dX8_on_289 zi_1 ?_
          refine w_en dX8_on_290 rfl ?_
          exact ⟨_, _, rfl, (by have := zt_1; omega), (by have := zt_1; omega), hJ293, hb⟩
  have hb : zHd _ := hbE
  show ZW _ _ _ _ _ _ _ (0, [some (.ref 0), none, none, none, none], [], M0)
  refine w_lo dX8_on_0 rfl rfl rfl rfl ?_
  refine w_gfi dX8_on_1 rfl hJ0.1 zs_0 (Nat.le_of_ble_eq_true rfl) zo_0_1 ?_
  intro x297 f298 h299 h300
  replace hb : zHd _ := hb x297.toInt (ziE f298) h299 h300
  refine w_lo (ml' := [some (.ref 0), some (.int x297), none, none, none]) dX8_on_4 rfl rfl rfl rfl ?_
  refine w_lo dX8_on_5 rfl rfl rfl rfl ?_
  refine w_ic dX8_on_6 zi_0 ?_
  refine w_pfi dX8_on_7 rfl hJ0 zs_0 (Nat.le_of_ble_eq_true rfl) zo_0_1 (by have := zt_0; omega) (by have := zt_0; omega) (zIR_s (zIR_s (zIR_k (by omega) (by omega)))) rfl rfl rfl ?_
  intro M301 hJ302 f303 hn304
  replace hb : zHd _ := hb (zi M301) (zi_zup hn304 f303 rfl zt_0)
  refine w_lo dX8_on_10 rfl rfl rfl rfl ?_
  refine w_lo dX8_on_11 rfl rfl rfl rfl ?_
  refine w_iv dX8_on_12 rfl rfl (As := [.int x297]) rfl rfl hJ302.1.1 zs_0 (Nat.le_of_ble_eq_true rfl) ?_
  obtain ⟨P308, hp309, hb⟩ := hb
  replace hb : zHd _ := hb
  refine ZV.imp (u_2111 x297 hN hJ302.1 hp309) ?_
  rintro _ ⟨x311, M306, rfl, h312, h313, hJ307, hq310⟩
  replace hb : zHd _ := hb x311.toInt h312 h313 (zi M306) (zi_fr hJ307.2) hq310
  have hJ315 := zJ_trans hJ302 hJ307 zSub_nil
  show ZW _ _ _ _ _ _ _ (15, [some (.ref 0), some (.int x297), none, none, none], [.int x311], M306)
  rcases Int.decEq x311.toInt (0 : Int) with h316 | h316
  · skip
    replace hb : zHd _ := hb.1 h316
    refine w_ine_t dX8_on_15 (t := 25) rfl (by omega) ?_
    refine w_lo dX8_on_25 rfl rfl rfl rfl ?_
    refine w_gf dX8_on_26 rfl hJ315.1.1 zs_0 (zr_0_4 hJ315.1) ?_
    refine w_lo dX8_on_29 rfl rfl rfl rfl ?_
    obtain ⟨b317, f318, h319⟩ := zd_0_3 hJ315.1
    have h320 := zDm_b h319
    refine w_gf dX8_on_30 rfl hJ315.1.1 zs_0 f318 ?_
    replace hb : zHd _ := hb b317 (ziR f318) (zDm_or h319)
    refine w_iv dX8_on_33 rfl rfl (As := [.ref b317]) rfl rfl hJ315.1.1 zs_49 (Nat.le_of_ble_eq_true rfl) ?_
    obtain ⟨P323, hp324, hb⟩ := hb
    replace hb : zHd _ := hb
    refine ZV.imp (u_1537 49 hb_6_49 b317 h319 hN hJ315.1 hp324) ?_
    rintro _ ⟨M321, rfl, hJ322, hq325⟩
    replace hb : zHd _ := hb  (zi M321) (zi_fr hJ322.2) hq325
    have hJ327 := zJ_trans hJ315 hJ322 (zSub_cons (fun _ _ h h' hk => zIR_e (by omega) (by omega) hk) (zSub_cons (fun _ _ h h' hk => zIR_s (zIR_s (zIR_s (zIR_e (by omega) (by omega) hk)))) (zSub_cons (fun _ _ h h' hk => zIR_s (zIR_s (zIR_s (zIR_s (zIR_a (by omega) (by omega)))))) (zSub_cons (fun _ _ h h' hk => zIR_s (zIR_s (zIR_s (zIR_s (zIR_s (zIR_s (zIR_s (zIR_e (by omega) (by omega) hk)))))))) zSub_nil))))
    show ZW _ _ _ _ _ _ _ (36, [some (.ref 0), some (.int x297), none, none, none], [], M321)
    refine w_lo dX8_on_36 rfl rfl rfl rfl ?_
    refine w_gf dX8_on_37 rfl hJ327.1.1 zs_0 (zr_0_4 hJ327.1) ?_
    refine w_lo dX8_on_40 rfl rfl rfl rfl ?_
    refine w_ic dX8_on_41 zi_0 ?_
    refine w_iv dX8_on_42 rfl rfl (As := [.int 0]) rfl rfl hJ327.1.1 zs_0 (Nat.le_of_ble_eq_true rfl) ?_
    obtain ⟨P330, hp331, hb⟩ := hb
    replace hb : zHd _ := hb
    have hp331c : b_2091 (zi M321) (0 : Int32).toInt P330 := by rw [zt_0]; exact hp331
    refine ZV.imp (u_2091 0 hN hJ327.1 hp331c) ?_
    rintro _ ⟨x333, M328, rfl, h334, h335, hJ329, hq332⟩
    replace hb : zHd _ := hb x333.toInt h334 h335 (zi M328) (zi_fr hJ329.2) hq332
    have hJ337 := zJ_trans hJ327 hJ329 zSub_nil
    show ZW _ _ _ _ _ _ _ (45, [some (.ref 0), some (.int x297), none, none, none], [.int x333, .ref 49], M328)
    refine w_pfi dX8_on_45 rfl hJ337 zs_49 (Nat.le_of_ble_eq_true rfl) zo_49_1 (zbot _) (ztop _) (zIR_s (zIR_s (zIR_s (zIR_k (by omega) (by omega))))) rfl rfl rfl ?_
    intro M338 hJ339 f340 hn341
    replace hb : zHd _ := hb (zi M338) (zi_zup hn341 f340 rfl rfl)
    refine w_ic dX8_on_48 zi_0 ?_
    refine w_lo (ml' := [some (.ref 0), some (.int x297), some (.int 0), none, none]) dX8_on_49 rfl rfl rfl rfl ?_
    obtain ⟨m, hI⟩ := hb
    exact (main m).1 M338 x297 0 none none hJ339 (by have := zt_0; omega) (by have := zt_0; omega) hI
  · skip
    replace hb : zHd _ := hb.2 h316
    refine w_ine_f dX8_on_15 (t := 25) rfl (by omega) ?_
    refine w_lo dX8_on_18 rfl rfl rfl rfl ?_
    refine w_ic dX8_on_19 zi_5 ?_
    refine w_iv dX8_on_20 rfl rfl (As := [.int 5]) rfl rfl hJ315.1.1 zs_0 (Nat.le_of_ble_eq_true rfl) ?_
    refine ZV.imp (k_2050 5 (by have := zt_5; omega) (by have := zt_5; omega) hN hJ315.1) ?_
    rintro _ ⟨M343, rfl, hJ344, hq345⟩
    replace hb : zHd _ := hb  (zi M343) (zi_fr hJ344.2)
    have hJ347 := zJ_trans hJ315 hJ344 (zSub_cons (fun _ _ h h' hk => zIR_s (zIR_s (zIR_s (zIR_s (zIR_s (zIR_a (by omega) (by omega))))))) zSub_nil)
    show ZW _ _ _ _ _ _ _ (23, [some (.ref 0), some (.int x297), none, none, none], [], M343)
    refine w_ic dX8_on_23 zi_0 ?_
    refine w_en dX8_on_24 rfl ?_
    exact ⟨_, _, rfl, (by have := zt_0; omega), (by have := zt_0; omega), hJ347, hb⟩
