/-! seed(): the answers (wip/safe/vcp10.py) -/
set_option maxRecDepth 100000 in
def b_2081 (s0 : zF) (a0 : Int) (Q : Int → zF → Prop) : Prop :=
  (a0 < 0 → ∀ g5 : zF, zFr [(385, 386, 1000)] s0 g5 → Q 0 g5) ∧ (0 ≤ a0 → ∀ g11 : zF, g11 = zup s0 (359) 0 a0 → Q 1 g11)
set_option maxRecDepth 100000 in
theorem u_2081 {X : List Int32} {d N : Nat} {M0 : zM} (a0 : Int32) (hN : N ≤ 600) (hB0 : zB N M0) {Q : Int → zF → Prop} (hb : b_2081 (zi M0) a0.toInt Q) : ZV X (d + 2) 2081 [.ref 0, .int a0] M0 (zRI N [(359, 360, 0), (385, 386, 1000)] M0 (0) (1) (fun v M' => Q v.toInt (zi M'))) := by
  have hJ0 : zJ N [(359, 360, 0), (385, 386, 1000)] M0 M0 := zJ_refl hB0
  refine ZV.of (ini := false) rfl (Nat.le_of_ble_eq_true rfl) (by decide +kernel) ?_
  unfold b_2081 at hb
  replace hb : zHd _ := hb
  show ZW _ _ _ _ _ _ _ (0, [some (.ref 0), some (.int a0)], [], M0)
  refine w_lo dX8_seed_0 rfl rfl rfl rfl ?_
  rcases zcut a0.toInt (0 : Int) with h1 | h1
  · skip
    replace hb : zHd _ := hb.1 h1
    refine w_ige_f dX8_seed_1 (t := 11) rfl (by omega) ?_
    refine w_lo dX8_seed_4 rfl rfl rfl rfl ?_
    refine w_ic dX8_seed_5 zi_5 ?_
    refine w_iv dX8_seed_6 rfl rfl (As := [.int 5]) rfl rfl hJ0.1.1 zs_0 (Nat.le_of_ble_eq_true rfl) ?_
    refine ZV.imp (k_2050 5 (by have := zt_5; omega) (by have := zt_5; omega) hN hJ0.1) ?_
    rintro _ ⟨M2, rfl, hJ3, hq4⟩
    replace hb : zHd _ := hb  (zi M2) (zi_fr hJ3.2)
    have hJ6 := zJ_trans hJ0 hJ3 (zSub_cons (fun _ _ h h' hk => zIR_s (zIR_a (by omega) (by omega))) zSub_nil)
    show ZW _ _ _ _ _ _ _ (9, [some (.ref 0), some (.int a0)], [], M2)
    refine w_ic dX8_seed_9 zi_0 ?_
    refine w_en dX8_seed_10 rfl ?_
    exact ⟨_, _, rfl, (by have := zt_0; omega), (by have := zt_0; omega), hJ6, hb⟩
  · skip
    replace hb : zHd _ := hb.2 h1
    refine w_ige_t dX8_seed_1 (t := 11) rfl (by omega) ?_
    refine w_lo dX8_seed_11 rfl rfl rfl rfl ?_
    refine w_gf dX8_seed_12 rfl hJ0.1.1 zs_0 (zr_0_7 hJ0.1) ?_
    refine w_lo dX8_seed_15 rfl rfl rfl rfl ?_
    refine w_pfi dX8_seed_16 rfl hJ0 zs_359 (Nat.le_of_ble_eq_true rfl) zo_359_0 (zbot _) (ztop _) (zIR_k (by omega) (by omega)) rfl rfl rfl ?_
    intro M7 hJ8 f9 hn10
    replace hb : zHd _ := hb (zi M7) (zi_zup hn10 f9 rfl rfl)
    refine w_ic dX8_seed_19 zi_1 ?_
    refine w_en dX8_seed_20 rfl ?_
    exact ⟨_, _, rfl, (by have := zt_1; omega), (by have := zt_1; omega), hJ8, hb⟩
set_option maxRecDepth 100000 in
def b_2396 (s0 : zF) (a0 : Int) (Q : Int → zF → Prop) : Prop :=
  (a0 < 0 → ∀ x5 : Int, (-1) ≤ x5 → x5 ≤ (-1) → ∀ g8 : zF, zFr [(415, 416, 1000)] s0 g8 → Q 0 g8) ∧ (0 ≤ a0 → ∀ y10 : Int, y10 = a0 → ∀ g16 : zF, g16 = zup s0 (386) 66 y10 → Q 1 g16)
set_option maxRecDepth 100000 in
theorem u_2396 {X : List Int32} {d N : Nat} {M0 : zM} (a0 : Int32) (hN : N ≤ 600) (hB0 : zB N M0) {Q : Int → zF → Prop} (hb : b_2396 (zi M0) a0.toInt Q) : ZV X (d + 2) 2396 [.ref 386, .int a0] M0 (zRI N [(415, 416, 1000), (386, 387, 66)] M0 (0) (1) (fun v M' => Q v.toInt (zi M'))) := by
  have hJ0 : zJ N [(415, 416, 1000), (386, 387, 66)] M0 M0 := zJ_refl hB0
  refine ZV.of (ini := false) rfl (Nat.le_of_ble_eq_true rfl) (by decide +kernel) ?_
  unfold b_2396 at hb
  replace hb : zHd _ := hb
  show ZW _ _ _ _ _ _ _ (0, [some (.ref 386), some (.int a0)], [], M0)
  refine w_lo dX9_seed_0 rfl rfl rfl rfl ?_
  rcases zcut a0.toInt (0 : Int) with h1 | h1
  · skip
    replace hb : zHd _ := hb.1 h1
    refine w_ige_f dX9_seed_1 (t := 18) rfl (by omega) ?_
    refine w_lo dX9_seed_4 rfl rfl rfl rfl ?_
    refine w_ic dX9_seed_5 zi_5 ?_
    refine w_iv dX9_seed_6 rfl rfl (As := [.int 5]) rfl rfl hJ0.1.1 zs_386 (Nat.le_of_ble_eq_true rfl) ?_
    refine ZV.imp (k_2306 5 (by have := zt_5; omega) (by have := zt_5; omega) hN hJ0.1) ?_
    rintro _ ⟨x5, M2, rfl, h6, h7, hJ3, hq4⟩
    replace hb : zHd _ := hb x5.toInt h6 h7 (zi M2) (zi_fr hJ3.2)
    have hJ9 := zJ_trans hJ0 hJ3 (zSub_cons (fun _ _ h h' hk => zIR_a (by omega) (by omega)) zSub_nil)
    show ZW _ _ _ _ _ _ _ (9, [some (.ref 386), some (.int a0)], [.int x5], M2)
    refine w_ilt_t dX9_seed_9 (t := 16) rfl (by omega) ?_
    refine w_ic dX9_seed_16 zi_0 ?_
    refine w_en dX9_seed_17 rfl ?_
    exact ⟨_, _, rfl, (by have := zt_0; omega), (by have := zt_0; omega), hJ9, hb⟩
  · skip
    replace hb : zHd _ := hb.2 h1
    refine w_ige_t dX9_seed_1 (t := 18) rfl (by omega) ?_
    refine w_lo dX9_seed_18 rfl rfl rfl rfl ?_
    refine w_lo dX9_seed_19 rfl rfl rfl rfl ?_
    refine w_i2l dX9_seed_20 ?_
    intro y10 h11
    have := ztop a0; have := zbot a0
    replace hb : zHd _ := hb y10.toInt (by omega)
    refine w_pfl dX9_seed_21 rfl hJ0 zs_386 (Nat.le_of_ble_eq_true rfl) zo_386_66 (by omega) (by omega) (zIR_s (zIR_k (by omega) (by omega))) rfl rfl rfl ?_
    intro M12 hJ13 f14 hn15
    replace hb : zHd _ := hb (zi M12) (zi_zupL hn15 f14 rfl rfl)
    refine w_ic dX9_seed_24 zi_1 ?_
    refine w_en dX9_seed_25 rfl ?_
    exact ⟨_, _, rfl, (by have := zt_1; omega), (by have := zt_1; omega), hJ13, hb⟩
set_option maxHeartbeats 4000000 in
theorem v_2081 {s0 : zF} {a0 : Int} : b_2081 s0 a0 (fun v _ => v = if a0 < 0 then 0 else 1) := by
  unfold b_2081
  refine ⟨fun h1 => ?_, fun h1 => ?_⟩
  · skip
    intro g5 rg5 
    first | exact (if_pos (by omega)).symm | exact (if_neg (by omega)).symm
  · skip
    intro g11 eg11
    first | exact (if_pos (by omega)).symm | exact (if_neg (by omega)).symm
set_option maxHeartbeats 4000000 in
theorem v_2396 {s0 : zF} {a0 : Int} : b_2396 s0 a0 (fun v _ => v = if a0 < 0 then 0 else 1) := by
  unfold b_2396
  refine ⟨fun h1 => ?_, fun h1 => ?_⟩
  · skip
    intro x5 hx51 hx52 g8 rg8 
    first | exact (if_pos (by omega)).symm | exact (if_neg (by omega)).symm
  · skip
    intro y10 ey10
    intro g16 eg16
    first | exact (if_pos (by omega)).symm | exact (if_neg (by omega)).symm
