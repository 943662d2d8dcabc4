/-! the answers of p5 (wip/safe/vcp36.py) -/
set_option maxRecDepth 100000 in
def b_2054 (s0 : zF) (a0 : Int) (Q : Int → zF → Prop) : Prop :=
  (a0 = 0 → ∀ x2 : Int, x2 = s0 (2) 0 → 0 ≤ x2 → x2 ≤ 5 → Q x2 s0) ∧ (¬ a0 = 0 → (a0 = 1 → ∀ x7 : Int, x7 = s0 (2) 1 → Q x7 s0) ∧ (¬ a0 = 1 → Q (-1) s0))
set_option maxRecDepth 100000 in
def b_2343 (s0 : zF) (a0 : Int) (Q : Int → zF → Prop) : Prop :=
  (¬ a0 = 0 → (¬ a0 = 1 → Q (-1) s0) ∧ (a0 = 1 → ∀ x3 : Int, x3 = s0 (386) 11 → (-1) ≤ x3 → x3 ≤ 1600 → Q x3 s0)) ∧ (a0 = 0 → ∀ x7 : Int, x7 = s0 (386) 10 → 0 ≤ x7 → x7 ≤ 5 → Q x7 s0)
set_option maxRecDepth 100000 in
theorem u_2054 {X : List Int32} {d N : Nat} {M0 : zM} (a0 : Int32) (hN : N ≤ 600) (hB0 : zB N M0) {Q : Int → zF → Prop} (hb : b_2054 (zi M0) a0.toInt Q) : ZV X (d + 1) 2054 [.ref 0, .int a0] M0 (zRI N [] M0 (-2147483648) (2147483647) (fun v M' => Q v.toInt (zi M'))) := by
  have hJ0 : zJ N [] M0 M0 := zJ_refl hB0
  refine ZV.of (ini := false) rfl (Nat.le_of_ble_eq_true rfl) (by decide +kernel) ?_
  unfold b_2054 at hb
  replace hb : zHd _ := hb
  show ZW _ _ _ _ _ _ _ (0, [some (.ref 0), some (.int a0)], [], M0)
  refine w_lo dX8_fault_0 rfl rfl rfl rfl ?_
  rcases Int.decEq a0.toInt (0 : Int) with h1 | h1
  rotate_left
  · skip
    replace hb : zHd _ := hb.1 h1
    refine w_lk dX8_fault_1 rfl (t := 28) (j := 0) h1 (by decide) ?_
    refine w_lo dX8_fault_28 rfl rfl rfl rfl ?_
    refine w_gf dX8_fault_29 rfl hJ0.1.1 zs_0 (zr_0_2 hJ0.1) ?_
    refine w_gfi dX8_fault_32 rfl hJ0.1 zs_2 (Nat.le_of_ble_eq_true rfl) zo_2_0 ?_
    intro x2 f3 h4 h5
    replace hb : zHd _ := hb x2.toInt (ziE f3) h4 h5
    refine w_eni dX8_fault_35 rfl rfl ?_
    exact ⟨_, _, rfl, (zbot _), (ztop _), hJ0, hb⟩
  replace hb : zHd _ := hb.2 h1
  rcases Int.decEq a0.toInt (1 : Int) with h6 | h6
  rotate_left
  · skip
    replace hb : zHd _ := hb.1 h6
    refine w_lk dX8_fault_1 rfl (t := 36) (j := 1) h6 (by decide) ?_
    refine w_lo dX8_fault_36 rfl rfl rfl rfl ?_
    refine w_gf dX8_fault_37 rfl hJ0.1.1 zs_0 (zr_0_2 hJ0.1) ?_
    refine w_gfi dX8_fault_40 rfl hJ0.1 zs_2 (Nat.le_of_ble_eq_true rfl) zo_2_1 ?_
    intro x7 f8 h9 h10
    replace hb : zHd _ := hb x7.toInt (ziE f8)
    refine w_eni dX8_fault_43 rfl rfl ?_
    exact ⟨_, _, rfl, (zbot _), (ztop _), hJ0, hb⟩
  replace hb : zHd _ := hb.2 h6
  refine w_ld dX8_fault_1 rfl (t := 44) (List.forall_mem_cons.mpr ⟨by show (0 : Int) ≠ _; omega, List.forall_mem_cons.mpr ⟨by show (1 : Int) ≠ _; omega, fun _ h => absurd h List.not_mem_nil⟩⟩) rfl ?_
  refine w_ic dX8_fault_44 zi_m1 ?_
  refine w_en dX8_fault_45 rfl ?_
  exact ⟨_, _, rfl, (zbot _), (ztop _), hJ0, hb⟩
set_option maxRecDepth 100000 in
theorem u_2343 {X : List Int32} {d N : Nat} {M0 : zM} (a0 : Int32) (hN : N ≤ 600) (hB0 : zB N M0) {Q : Int → zF → Prop} (hb : b_2343 (zi M0) a0.toInt Q) : ZV X (d + 1) 2343 [.ref 386, .int a0] M0 (zRI N [] M0 (-1) (1600) (fun v M' => Q v.toInt (zi M'))) := by
  have hJ0 : zJ N [] M0 M0 := zJ_refl hB0
  refine ZV.of (ini := false) rfl (Nat.le_of_ble_eq_true rfl) (by decide +kernel) ?_
  unfold b_2343 at hb
  replace hb : zHd _ := hb
  show ZW _ _ _ _ _ _ _ (0, [some (.ref 386), some (.int a0)], [], M0)
  refine w_lo dX9_fault_0 rfl rfl rfl rfl ?_
  rcases Int.decEq a0.toInt (0 : Int) with h1 | h1
  · skip
    replace hb : zHd _ := hb.1 h1
    refine w_ine_t dX9_fault_1 (t := 11) rfl (by omega) ?_
    refine w_lo dX9_fault_11 rfl rfl rfl rfl ?_
    refine w_ic dX9_fault_12 zi_1 ?_
    rcases Int.decEq a0.toInt (1 : Int) with h2 | h2
    · skip
      replace hb : zHd _ := hb.1 h2
      refine w_cne_t dX9_fault_13 (t := 23) rfl (by have := zt_1; omega) ?_
      refine w_ic dX9_fault_23 zi_m1 ?_
      refine w_en dX9_fault_24 rfl ?_
      exact ⟨_, _, rfl, (by have := zt_m1; omega), (by have := zt_m1; omega), hJ0, hb⟩
    · skip
      replace hb : zHd _ := hb.2 h2
      refine w_cne_f dX9_fault_13 (t := 23) rfl (by have := zt_1; omega) ?_
      refine w_lo dX9_fault_16 rfl rfl rfl rfl ?_
      refine w_gfi dX9_fault_17 rfl hJ0.1 zs_386 (Nat.le_of_ble_eq_true rfl) zo_386_11 ?_
      intro x3 f4 h5 h6
      replace hb : zHd _ := hb x3.toInt (ziE f4) h5 h6
      refine w_gt dX9_fault_20 (t := 24) rfl ?_
      refine w_eni dX9_fault_24 rfl rfl ?_
      exact ⟨_, _, rfl, (by omega), (by omega), hJ0, hb⟩
  · skip
    replace hb : zHd _ := hb.2 h1
    refine w_ine_f dX9_fault_1 (t := 11) rfl (by omega) ?_
    refine w_lo dX9_fault_4 rfl rfl rfl rfl ?_
    refine w_gfi dX9_fault_5 rfl hJ0.1 zs_386 (Nat.le_of_ble_eq_true rfl) zo_386_10 ?_
    intro x7 f8 h9 h10
    replace hb : zHd _ := hb x7.toInt (ziE f8) h9 h10
    refine w_gt dX9_fault_8 (t := 24) rfl ?_
    refine w_eni dX9_fault_24 rfl rfl ?_
    exact ⟨_, _, rfl, (by omega), (by omega), hJ0, hb⟩
set_option maxHeartbeats 4000000 in
theorem v_2054 {s0 : zF} {a0 : Int} : b_2054 s0 a0 (fun v _ => v = if a0 = 0 then s0 2 0 else if a0 = 1 then s0 2 1 else -1) := by
  unfold b_2054
  refine ⟨fun h1 => ?_, fun h1 => ?_⟩
  · skip
    intro x2 ex2 fx2 gx2
    first | (rw [if_pos (by omega)]; omega) | (rw [if_neg (by omega), if_pos (by omega)]; omega) | (rw [if_neg (by omega), if_neg (by omega)])
  refine ⟨fun h6 => ?_, fun h6 => ?_⟩
  · skip
    intro x7 ex7
    first | (rw [if_pos (by omega)]; omega) | (rw [if_neg (by omega), if_pos (by omega)]; omega) | (rw [if_neg (by omega), if_neg (by omega)])
  first | (rw [if_pos (by omega)]; omega) | (rw [if_neg (by omega), if_pos (by omega)]; omega) | (rw [if_neg (by omega), if_neg (by omega)])
set_option maxHeartbeats 4000000 in
theorem v_2343 {s0 : zF} {a0 : Int} : b_2343 s0 a0 (fun v _ => v = if a0 = 0 then s0 386 10 else if a0 = 1 then s0 386 11 else -1) := by
  unfold b_2343
  refine ⟨fun h1 => ?_, fun h1 => ?_⟩
  · skip
    refine ⟨fun h2 => ?_, fun h2 => ?_⟩
    · skip
      first | (rw [if_pos (by omega)]; omega) | (rw [if_neg (by omega), if_pos (by omega)]; omega) | (rw [if_neg (by omega), if_neg (by omega)])
    · skip
      intro x3 ex3 fx3 gx3
      first | (rw [if_pos (by omega)]; omega) | (rw [if_neg (by omega), if_pos (by omega)]; omega) | (rw [if_neg (by omega), if_neg (by omega)])
  · skip
    intro x7 ex7 fx7 gx7
    first | (rw [if_pos (by omega)]; omega) | (rw [if_neg (by omega), if_pos (by omega)]; omega) | (rw [if_neg (by omega), if_neg (by omega)])
