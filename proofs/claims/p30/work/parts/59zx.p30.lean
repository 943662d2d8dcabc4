/-! the answers of p30 (wip/safe/vcp36.py) -/
set_option maxRecDepth 100000 in
def b_2090 (s0 : zF) (Q : Int → zF → Prop) : Prop :=
  ∃ (I43 : Nat → zF → Int → Prop),
    (∀ x30 : Int, x30 = s0 (0) 1 → 0 ≤ x30 → x30 ≤ 1600 → ∀ g38 : zF, g38 = zup s0 (0) 1 0 → ∀ x39 : Int, x39 = g38 (49) 0 → 0 ≤ x39 → x39 ≤ 12 → (x39 < 1 → ∀ g47 : zF, zFr [(385, 386, 1000)] g38 g47 → Q 0 g47) ∧ (1 ≤ x39 → ∀ x49 : Int, x49 = 2 * x39 → (¬ x30 = x49 → ∀ g55 : zF, zFr [(385, 386, 1000)] g38 g55 → Q 0 g55) ∧ (x30 = x49 → ∃ m : Nat, I43 m g38 0))) ∧
    (∀ (n : Nat) (g : zF) (v43_2 : Int), zFr [(0, 1, 1), (383, 384, 1000), (385, 386, 1000), (0, 1, 11)] s0 g → 0 ≤ v43_2 → v43_2 ≤ 12 → I43 n g v43_2 → ∀ x1 : Int, x1 = g (49) 0 → 0 ≤ x1 → x1 ≤ 12 → (v43_2 < x1 → ∀ x6 : Int, x6 = 2 * v43_2 → ∃ P10 : Int → zF → Prop, b_2091 g x6 P10 ∧ ∀ x13 : Int, 0 ≤ x13 → x13 ≤ 65535 → ∀ g16 : zF, zFr [] g g16 → P10 x13 g16 → ∀ g22 : zF, g22 = zup g16 (383) v43_2.toNat x13 → ∀ x23 : Int, x23 = v43_2 + 1 → ∃ m : Nat, m < n ∧ I43 m g22 x23) ∧ (x1 ≤ v43_2 → ∀ g29 : zF, g29 = zup g (0) 11 1 → Q 1 g29))
set_option maxRecDepth 100000 in
def b_2410 (s0 : zF) (Q : Int → zF → Prop) : Prop :=
  ∃ (I43 : Nat → zF → Int → Prop),
    (∀ x38 : Int, x38 = s0 (386) 1 → 0 ≤ x38 → x38 ≤ 1600 → ∀ g46 : zF, g46 = zup s0 (386) 1 0 → ∀ x47 : Int, x47 = g46 (386) 12 → 0 ≤ x47 → x47 ≤ 1 → ∀ x54 : Int, x54 = g46 (388) x47.toNat → 0 ≤ x54 → x54 ≤ 12 → (¬ x54 = 0 → ∀ x59 : Int, x59 = 2 * x54 → (¬ x38 = x59 → ∀ x65 : Int, (-1) ≤ x65 → x65 ≤ (-1) → ∀ g68 : zF, zFr [(415, 416, 1000)] g46 g68 → Q 0 g68) ∧ (x38 = x59 → ∃ m : Nat, I43 m g46 0)) ∧ (x54 = 0 → ∀ x73 : Int, (-1) ≤ x73 → x73 ≤ (-1) → ∀ g76 : zF, zFr [(415, 416, 1000)] g46 g76 → Q 0 g76)) ∧
    (∀ (n : Nat) (g : zF) (v43_2 : Int), zFr [(386, 387, 1), (415, 416, 1000), (433, 434, 1000), (386, 387, 68)] s0 g → 0 ≤ v43_2 → v43_2 ≤ 12 → I43 n g v43_2 → ∀ x1 : Int, x1 = g (386) 12 → 0 ≤ x1 → x1 ≤ 1 → ∀ x8 : Int, x8 = g (388) x1.toNat → 0 ≤ x8 → x8 ≤ 12 → (v43_2 < x8 → ∀ x10 : Int, x10 = 2 * v43_2 → ∀ x15 : Int, x15 = g (387) x10.toNat → 0 ≤ x15 → x15 ≤ 255 → ∀ x16 : Int, ∀ x17 : Int, x17 = 2 * v43_2 → ∀ x19 : Int, x19 = x17 + 1 → ∀ x24 : Int, x24 = g (387) x19.toNat → 0 ≤ x24 → x24 ≤ 255 → ∀ x25 : Int, ∀ g30 : zF, g30 = zup g (433) v43_2.toNat x25 → ∀ x31 : Int, x31 = v43_2 + 1 → ∃ m : Nat, m < n ∧ I43 m g30 x31) ∧ (x8 ≤ v43_2 → ∀ g37 : zF, g37 = zup g (386) 68 1 → Q 1 g37))
set_option maxRecDepth 100000 in
theorem u_2090 {X : List Int32} {d N : Nat} {M0 : zM}  (hN : N ≤ 600) (hB0 : zB N M0) {Q : Int → zF → Prop} (hb : b_2090 (zi M0) Q) : ZV X (d + 3) 2090 [.ref 0] M0 (zRI N [(0, 1, 1), (383, 384, 1000), (385, 386, 1000), (0, 1, 11)] M0 (0) (1) (fun v M' => Q v.toInt (zi M'))) := by
  have hJ0 : zJ N [(0, 1, 1), (383, 384, 1000), (385, 386, 1000), (0, 1, 11)] M0 M0 := zJ_refl hB0
  refine ZV.of (ini := false) rfl (Nat.le_of_ble_eq_true rfl) (by decide +kernel) ?_
  obtain ⟨I43, hbE, hb43⟩ := hb
  replace hbE : zHd _ := hbE
  replace hb43 : zHd _ := hb43
  have main : ∀ n : Nat,
      (∀ (M : zM) (u43_1 : Int32) (v43_2 : Int32), zJ N [(0, 1, 1), (383, 384, 1000), (385, 386, 1000), (0, 1, 11)] M0 M → ((0 : Int) ≤ v43_2.toInt) → (v43_2.toInt ≤ 12) → I43 n (zi M) v43_2.toInt → ZW X (d + 2) 8 false (some .boolean) cX8_hear (zRI N [(0, 1, 1), (383, 384, 1000), (385, 386, 1000), (0, 1, 11)] M0 (0) (1) (fun v M' => Q v.toInt (zi M'))) (43, [some (.ref 0), some (.int u43_1), some (.int v43_2)], [], M)) := by
    intro n
    induction n using Nat.strongRecOn with
    | _ n ih =>
      · intro M u43_1 v43_2 hJ v43_20 v43_21 hI
        have hb : zHd _ := hb43 n (zi M) v43_2.toInt (zi_fr hJ.2) v43_20 v43_21 hI
        refine w_lo dX8_hear_43 rfl rfl rfl rfl ?_
        refine w_lo dX8_hear_44 rfl rfl rfl rfl ?_
        refine w_gf dX8_hear_45 rfl hJ.1.1 zs_0 (zr_0_4 hJ.1) ?_
        refine w_gfi dX8_hear_48 rfl hJ.1 zs_49 (Nat.le_of_ble_eq_true rfl) zo_49_0 ?_
        intro x1 f2 h3 h4
        replace hb : zHd _ := hb x1.toInt (ziE f2) h3 h4
        rcases zcut v43_2.toInt x1.toInt with h5 | h5
        · skip
          replace hb : zHd _ := hb.1 h5
          refine w_cge_f dX8_hear_51 (t := 73) rfl (by omega) ?_
          refine w_lo dX8_hear_54 rfl rfl rfl rfl ?_
          refine w_gf dX8_hear_55 rfl hJ.1.1 zs_0 (zr_0_10 hJ.1) ?_
          refine w_lo dX8_hear_58 rfl rfl rfl rfl ?_
          refine w_lo dX8_hear_59 rfl rfl rfl rfl ?_
          refine w_ic dX8_hear_60 zi_2 ?_
          refine w_lo dX8_hear_61 rfl rfl rfl rfl ?_
          refine w_mulc dX8_hear_62 zt_2 (by have := zt_2; omega) ?_
          intro x6 h7
          have := zt_2
          replace hb : zHd _ := hb x6.toInt (by have := zt_2; omega)
          refine w_iv dX8_hear_63 rfl rfl (As := [.int x6]) rfl rfl hJ.1.1 zs_0 (Nat.le_of_ble_eq_true rfl) ?_
          obtain ⟨P10, hp11, hb⟩ := hb
          replace hb : zHd _ := hb
          refine ZV.imp (u_2091 x6 (by omega) (by omega) hN hJ.1 hp11) ?_
          rintro _ ⟨x13, M8, rfl, h14, h15, hJ9, hq12⟩
          replace hb : zHd _ := hb x13.toInt h14 h15 (zi M8) (zi_fr hJ9.2) hq12
          have hJ17 := zJ_trans hJ hJ9 zSub_nil
          show ZW _ _ _ _ _ _ _ (66, [some (.ref 0), some (.int u43_1), some (.int v43_2)], [.int x13, .int v43_2, .ref 383], M8)
          refine w_isi dX8_hear_66 hJ17 zs_383 (by omega) (by omega) zu_383 (by omega) (by omega) (zIR_s (zIR_a (by omega) (by omega))) ?_
          intro M18 hJ19 f20 hn21
          replace hb : zHd _ := hb (zi M18) (zi_zup hn21 f20 rfl rfl)
          refine w_inc (kk := 2) dX8_hear_67 rfl (m := 1) (by decide) (by omega) ?_
          intro x23 h24
          refine ⟨_, rfl, ?_⟩
          replace hb : zHd _ := hb x23.toInt h24
          show ZW _ _ _ _ _ _ _ (70, [some (.ref 0), some (.int u43_1), some (.int x23)], [], M18)
          refine w_gt dX8_hear_70 (t := 43) rfl ?_
          obtain ⟨m, hm, hI⟩ := hb
          exact (ih m hm) M18 u43_1 x23 hJ19 (by omega) (by omega) hI
        · skip
          replace hb : zHd _ := hb.2 h5
          refine w_cge_t dX8_hear_51 (t := 73) rfl (by omega) ?_
          refine w_lo dX8_hear_73 rfl rfl rfl rfl ?_
          refine w_ic dX8_hear_74 zi_1 ?_
          refine w_pfi dX8_hear_75 rfl hJ zs_0 (Nat.le_of_ble_eq_true rfl) zo_0_11 (by have := zt_1; omega) (by have := zt_1; omega) (zIR_s (zIR_s (zIR_s (zIR_k (by omega) (by omega))))) rfl rfl rfl ?_
          intro M25 hJ26 f27 hn28
          replace hb : zHd _ := hb (zi M25) (zi_zup hn28 f27 rfl zt_1)
          refine w_ic dX8_hear_78 zi_1 ?_
          refine w_en dX8_hear_79 rfl ?_
          exact ⟨_, _, rfl, (by have := zt_1; omega), (by have := zt_1; omega), hJ26, hb⟩
  have hb : zHd _ := hbE
  show ZW _ _ _ _ _ _ _ (0, [some (.ref 0), none, none], [], M0)
  refine w_lo dX8_hear_0 rfl rfl rfl rfl ?_
  refine w_gfi dX8_hear_1 rfl hJ0.1 zs_0 (Nat.le_of_ble_eq_true rfl) zo_0_1 ?_
  intro x30 f31 h32 h33
  replace hb : zHd _ := hb x30.toInt (ziE f31) h32 h33
  refine w_lo (ml' := [some (.ref 0), some (.int x30), none]) dX8_hear_4 rfl rfl rfl rfl ?_
  refine w_lo dX8_hear_5 rfl rfl rfl rfl ?_
  refine w_ic dX8_hear_6 zi_0 ?_
  refine w_pfi dX8_hear_7 rfl hJ0 zs_0 (Nat.le_of_ble_eq_true rfl) zo_0_1 (by have := zt_0; omega) (by have := zt_0; omega) (zIR_k (by omega) (by omega)) rfl rfl rfl ?_
  intro M34 hJ35 f36 hn37
  replace hb : zHd _ := hb (zi M34) (zi_zup hn37 f36 rfl zt_0)
  refine w_lo dX8_hear_10 rfl rfl rfl rfl ?_
  refine w_gf dX8_hear_11 rfl hJ35.1.1 zs_0 (zr_0_4 hJ35.1) ?_
  refine w_gfi dX8_hear_14 rfl hJ35.1 zs_49 (Nat.le_of_ble_eq_true rfl) zo_49_0 ?_
  intro x39 f40 h41 h42
  replace hb : zHd _ := hb x39.toInt (ziE f40) h41 h42
  refine w_ic dX8_hear_17 zi_1 ?_
  rcases zcut x39.toInt (1 : Int) with h43 | h43
  · skip
    replace hb : zHd _ := hb.1 h43
    refine w_clt_t dX8_hear_18 (t := 34) rfl (by have := zt_1; omega) ?_
    refine w_lo dX8_hear_34 rfl rfl rfl rfl ?_
    refine w_ic dX8_hear_35 zi_1 ?_
    refine w_iv dX8_hear_36 rfl rfl (As := [.int 1]) rfl rfl hJ35.1.1 zs_0 (Nat.le_of_ble_eq_true rfl) ?_
    refine ZV.imp (k_2050 1 (by have := zt_1; omega) (by have := zt_1; omega) hN hJ35.1) ?_
    rintro _ ⟨M44, rfl, hJ45, hq46⟩
    replace hb : zHd _ := hb  (zi M44) (zi_fr hJ45.2)
    have hJ48 := zJ_trans hJ35 hJ45 (zSub_cons (fun _ _ h h' hk => zIR_s (zIR_s (zIR_a (by omega) (by omega)))) zSub_nil)
    show ZW _ _ _ _ _ _ _ (39, [some (.ref 0), some (.int x30), none], [], M44)
    refine w_ic dX8_hear_39 zi_0 ?_
    refine w_en dX8_hear_40 rfl ?_
    exact ⟨_, _, rfl, (by have := zt_0; omega), (by have := zt_0; omega), hJ48, hb⟩
  · skip
    replace hb : zHd _ := hb.2 h43
    refine w_clt_f dX8_hear_18 (t := 34) rfl (by have := zt_1; omega) ?_
    refine w_lo dX8_hear_21 rfl rfl rfl rfl ?_
    refine w_ic dX8_hear_22 zi_2 ?_
    refine w_lo dX8_hear_23 rfl rfl rfl rfl ?_
    refine w_gf dX8_hear_24 rfl hJ35.1.1 zs_0 (zr_0_4 hJ35.1) ?_
    refine w_gf dX8_hear_27 rfl hJ35.1.1 zs_49 f40 ?_
    refine w_mulc dX8_hear_30 zt_2 (by have := zt_2; omega) ?_
    intro x49 h50
    have := zt_2
    replace hb : zHd _ := hb x49.toInt (by have := zt_2; omega)
    rcases Int.decEq x30.toInt x49.toInt with h51 | h51
    · skip
      replace hb : zHd _ := hb.1 h51
      refine w_ceq_f dX8_hear_31 (t := 41) rfl (by omega) ?_
      refine w_lo dX8_hear_34 rfl rfl rfl rfl ?_
      refine w_ic dX8_hear_35 zi_1 ?_
      refine w_iv dX8_hear_36 rfl rfl (As := [.int 1]) rfl rfl hJ35.1.1 zs_0 (Nat.le_of_ble_eq_true rfl) ?_
      refine ZV.imp (k_2050 1 (by have := zt_1; omega) (by have := zt_1; omega) hN hJ35.1) ?_
      rintro _ ⟨M52, rfl, hJ53, hq54⟩
      replace hb : zHd _ := hb  (zi M52) (zi_fr hJ53.2)
      have hJ56 := zJ_trans hJ35 hJ53 (zSub_cons (fun _ _ h h' hk => zIR_s (zIR_s (zIR_a (by omega) (by omega)))) zSub_nil)
      show ZW _ _ _ _ _ _ _ (39, [some (.ref 0), some (.int x30), none], [], M52)
      refine w_ic dX8_hear_39 zi_0 ?_
      refine w_en dX8_hear_40 rfl ?_
      exact ⟨_, _, rfl, (by have := zt_0; omega), (by have := zt_0; omega), hJ56, hb⟩
    · skip
      replace hb : zHd _ := hb.2 h51
      refine w_ceq_t dX8_hear_31 (t := 41) rfl (by omega) ?_
      refine w_ic dX8_hear_41 zi_0 ?_
      refine w_lo (ml' := [some (.ref 0), some (.int x30), some (.int 0)]) dX8_hear_42 rfl rfl rfl rfl ?_
      obtain ⟨m, hI⟩ := hb
      exact (main m) M34 x30 0 hJ35 (by have := zt_0; omega) (by have := zt_0; omega) hI
set_option maxRecDepth 100000 in
theorem u_2410 {X : List Int32} {d N : Nat} {M0 : zM}  (hN : N ≤ 600) (hB0 : zB N M0) {Q : Int → zF → Prop} (hb : b_2410 (zi M0) Q) : ZV X (d + 2) 2410 [.ref 386] M0 (zRI N [(386, 387, 1), (415, 416, 1000), (433, 434, 1000), (386, 387, 68)] M0 (0) (1) (fun v M' => Q v.toInt (zi M'))) := by
  have hJ0 : zJ N [(386, 387, 1), (415, 416, 1000), (433, 434, 1000), (386, 387, 68)] M0 M0 := zJ_refl hB0
  refine ZV.of (ini := false) rfl (Nat.le_of_ble_eq_true rfl) (by decide +kernel) ?_
  obtain ⟨I43, hbE, hb43⟩ := hb
  replace hbE : zHd _ := hbE
  replace hb43 : zHd _ := hb43
  have main : ∀ n : Nat,
      (∀ (M : zM) (u43_1 : Int32) (v43_2 : Int32), zJ N [(386, 387, 1), (415, 416, 1000), (433, 434, 1000), (386, 387, 68)] M0 M → ((0 : Int) ≤ v43_2.toInt) → (v43_2.toInt ≤ 12) → I43 n (zi M) v43_2.toInt → ZW X (d + 1) 9 false (some .boolean) cX9_hear (zRI N [(386, 387, 1), (415, 416, 1000), (433, 434, 1000), (386, 387, 68)] M0 (0) (1) (fun v M' => Q v.toInt (zi M'))) (43, [some (.ref 386), some (.int u43_1), some (.int v43_2)], [], M)) := by
    intro n
    induction n using Nat.strongRecOn with
    | _ n ih =>
      · intro M u43_1 v43_2 hJ v43_20 v43_21 hI
        have hb : zHd _ := hb43 n (zi M) v43_2.toInt (zi_fr hJ.2) v43_20 v43_21 hI
        refine w_lo dX9_hear_43 rfl rfl rfl rfl ?_
        refine w_lo dX9_hear_44 rfl rfl rfl rfl ?_
        refine w_iv dX9_hear_45 rfl rfl (As := []) rfl rfl hJ.1.1 zs_386 (Nat.le_of_ble_eq_true rfl) ?_
        refine ZV.of (ini := false) rfl (Nat.le_of_ble_eq_true rfl) (by decide +kernel) ?_
        show ZW _ _ _ _ _ _ _ (0, [some (.ref 386)], [], M)
        refine w_lo dX9_many_0 rfl rfl rfl rfl ?_
        refine w_gf dX9_many_1 rfl hJ.1.1 zs_386 (zr_386_13 hJ.1) ?_
        refine w_lo dX9_many_4 rfl rfl rfl rfl ?_
        refine w_gfi dX9_many_5 rfl hJ.1 zs_386 (Nat.le_of_ble_eq_true rfl) zo_386_12 ?_
        intro x1 f2 h3 h4
        replace hb : zHd _ := hb x1.toInt (ziE f2) h3 h4
        refine w_iai dX9_many_8 hJ.1 zs_388 (by omega) (by omega) zu_388 ?_
        intro x8 f5 h6 h7
        replace hb : zHd _ := hb x8.toInt (ziEk f5 rfl) h6 h7
        refine w_eni dX9_many_9 rfl rfl ?_
        show ZW _ _ _ _ _ _ _ (48, [some (.ref 386), some (.int u43_1), some (.int v43_2)], [.int x8, .int v43_2], M)
        rcases zcut v43_2.toInt x8.toInt with h9 | h9
        · skip
          replace hb : zHd _ := hb.1 h9
          refine w_cge_f dX9_hear_48 (t := 85) rfl (by omega) ?_
          refine w_lo dX9_hear_51 rfl rfl rfl rfl ?_
          refine w_gf dX9_hear_52 rfl hJ.1.1 zs_386 (zr_386_67 hJ.1) ?_
          refine w_lo dX9_hear_55 rfl rfl rfl rfl ?_
          refine w_lo dX9_hear_56 rfl rfl rfl rfl ?_
          refine w_gf dX9_hear_57 rfl hJ.1.1 zs_386 (zr_386_0 hJ.1) ?_
          refine w_ic dX9_hear_60 zi_2 ?_
          refine w_lo dX9_hear_61 rfl rfl rfl rfl ?_
          refine w_mulc dX9_hear_62 zt_2 (by have := zt_2; omega) ?_
          intro x10 h11
          have := zt_2
          replace hb : zHd _ := hb x10.toInt (by have := zt_2; omega)
          refine w_iai dX9_hear_63 hJ.1 zs_387 (by omega) (by omega) zu_387 ?_
          intro x15 f12 h13 h14
          replace hb : zHd _ := hb x15.toInt (ziEk f12 rfl) h13 h14
          refine w_bi dX9_hear_64 (c := 8) (by decide) ?_
          refine w_puI dX9_hear_66 rfl rfl ?_
          intro x16
          replace hb : zHd _ := hb x16.toInt 
          refine w_lo dX9_hear_67 rfl rfl rfl rfl ?_
          refine w_gf dX9_hear_68 rfl hJ.1.1 zs_386 (zr_386_0 hJ.1) ?_
          refine w_ic dX9_hear_71 zi_2 ?_
          refine w_lo dX9_hear_72 rfl rfl rfl rfl ?_
          refine w_mulc dX9_hear_73 zt_2 (by have := zt_2; omega) ?_
          intro x17 h18
          have := zt_2
          replace hb : zHd _ := hb x17.toInt (by have := zt_2; omega)
          refine w_ic dX9_hear_74 zi_1 ?_
          refine w_add dX9_hear_75 (by have := zt_1; omega) ?_
          intro x19 h20
          have := zt_1
          replace hb : zHd _ := hb x19.toInt (by have := zt_1; omega)
          refine w_iai dX9_hear_76 hJ.1 zs_387 (by omega) (by omega) zu_387 ?_
          intro x24 f21 h22 h23
          replace hb : zHd _ := hb x24.toInt (ziEk f21 rfl) h22 h23
          refine w_puI dX9_hear_77 rfl rfl ?_
          intro x25
          replace hb : zHd _ := hb x25.toInt 
          refine w_isi dX9_hear_78 hJ zs_433 (by omega) (by omega) zu_433 (zbot _) (ztop _) (zIR_s (zIR_s (zIR_a (by omega) (by omega)))) ?_
          intro M26 hJ27 f28 hn29
          replace hb : zHd _ := hb (zi M26) (zi_zup hn29 f28 rfl rfl)
          refine w_inc (kk := 2) dX9_hear_79 rfl (m := 1) (by decide) (by omega) ?_
          intro x31 h32
          refine ⟨_, rfl, ?_⟩
          replace hb : zHd _ := hb x31.toInt h32
          show ZW _ _ _ _ _ _ _ (82, [some (.ref 386), some (.int u43_1), some (.int x31)], [], M26)
          refine w_gt dX9_hear_82 (t := 43) rfl ?_
          obtain ⟨m, hm, hI⟩ := hb
          exact (ih m hm) M26 u43_1 x31 hJ27 (by omega) (by omega) hI
        · skip
          replace hb : zHd _ := hb.2 h9
          refine w_cge_t dX9_hear_48 (t := 85) rfl (by omega) ?_
          refine w_lo dX9_hear_85 rfl rfl rfl rfl ?_
          refine w_ic dX9_hear_86 zi_1 ?_
          refine w_pfi dX9_hear_87 rfl hJ zs_386 (Nat.le_of_ble_eq_true rfl) zo_386_68 (by have := zt_1; omega) (by have := zt_1; omega) (zIR_s (zIR_s (zIR_s (zIR_k (by omega) (by omega))))) rfl rfl rfl ?_
          intro M33 hJ34 f35 hn36
          replace hb : zHd _ := hb (zi M33) (zi_zup hn36 f35 rfl zt_1)
          refine w_ic dX9_hear_90 zi_1 ?_
          refine w_en dX9_hear_91 rfl ?_
          exact ⟨_, _, rfl, (by have := zt_1; omega), (by have := zt_1; omega), hJ34, hb⟩
  have hb : zHd _ := hbE
  show ZW _ _ _ _ _ _ _ (0, [some (.ref 386), none, none], [], M0)
  refine w_lo dX9_hear_0 rfl rfl rfl rfl ?_
  refine w_gfi dX9_hear_1 rfl hJ0.1 zs_386 (Nat.le_of_ble_eq_true rfl) zo_386_1 ?_
  intro x38 f39 h40 h41
  replace hb : zHd _ := hb x38.toInt (ziE f39) h40 h41
  refine w_lo (ml' := [some (.ref 386), some (.int x38), none]) dX9_hear_4 rfl rfl rfl rfl ?_
  refine w_lo dX9_hear_5 rfl rfl rfl rfl ?_
  refine w_ic dX9_hear_6 zi_0 ?_
  refine w_pfi dX9_hear_7 rfl hJ0 zs_386 (Nat.le_of_ble_eq_true rfl) zo_386_1 (by have := zt_0; omega) (by have := zt_0; omega) (zIR_k (by omega) (by omega)) rfl rfl rfl ?_
  intro M42 hJ43 f44 hn45
  replace hb : zHd _ := hb (zi M42) (zi_zup hn45 f44 rfl zt_0)
  refine w_lo dX9_hear_10 rfl rfl rfl rfl ?_
  refine w_iv dX9_hear_11 rfl rfl (As := []) rfl rfl hJ43.1.1 zs_386 (Nat.le_of_ble_eq_true rfl) ?_
  refine ZV.of (ini := false) rfl (Nat.le_of_ble_eq_true rfl) (by decide +kernel) ?_
  show ZW _ _ _ _ _ _ _ (0, [some (.ref 386)], [], M42)
  refine w_lo dX9_many_0 rfl rfl rfl rfl ?_
  refine w_gf dX9_many_1 rfl hJ43.1.1 zs_386 (zr_386_13 hJ43.1) ?_
  refine w_lo dX9_many_4 rfl rfl rfl rfl ?_
  refine w_gfi dX9_many_5 rfl hJ43.1 zs_386 (Nat.le_of_ble_eq_true rfl) zo_386_12 ?_
  intro x47 f48 h49 h50
  replace hb : zHd _ := hb x47.toInt (ziE f48) h49 h50
  refine w_iai dX9_many_8 hJ43.1 zs_388 (by omega) (by omega) zu_388 ?_
  intro x54 f51 h52 h53
  replace hb : zHd _ := hb x54.toInt (ziEk f51 rfl) h52 h53
  refine w_eni dX9_many_9 rfl rfl ?_
  show ZW _ _ _ _ _ _ _ (14, [some (.ref 386), some (.int x38), none], [.int x54], M42)
  rcases Int.decEq x54.toInt (0 : Int) with h55 | h55
  · skip
    replace hb : zHd _ := hb.1 h55
    refine w_ieq_f dX9_hear_14 (t := 27) rfl (by omega) ?_
    refine w_lo dX9_hear_17 rfl rfl rfl rfl ?_
    refine w_ic dX9_hear_18 zi_2 ?_
    refine w_lo dX9_hear_19 rfl rfl rfl rfl ?_
    refine w_iv dX9_hear_20 rfl rfl (As := []) rfl rfl hJ43.1.1 zs_386 (Nat.le_of_ble_eq_true rfl) ?_
    refine ZV.of (ini := false) rfl (Nat.le_of_ble_eq_true rfl) (by decide +kernel) ?_
    show ZW _ _ _ _ _ _ _ (0, [some (.ref 386)], [], M42)
    refine w_lo dX9_many_0 rfl rfl rfl rfl ?_
    refine w_gf dX9_many_1 rfl hJ43.1.1 zs_386 (zr_386_13 hJ43.1) ?_
    refine w_lo dX9_many_4 rfl rfl rfl rfl ?_
    refine w_gf dX9_many_5 rfl hJ43.1.1 zs_386 f48 ?_
    refine w_ia dX9_many_8 hJ43.1.1 zs_388 (znat (by omega)) f51 ?_
    refine w_eni dX9_many_9 rfl rfl ?_
    show ZW _ _ _ _ _ _ _ (23, [some (.ref 386), some (.int x38), none], [.int x54, .int 2, .int x38], M42)
    refine w_mulc dX9_hear_23 zt_2 (by have := zt_2; omega) ?_
    intro x59 h60
    have := zt_2
    replace hb : zHd _ := hb x59.toInt (by have := zt_2; omega)
    rcases Int.decEq x38.toInt x59.toInt with h61 | h61
    · skip
      replace hb : zHd _ := hb.1 h61
      refine w_ceq_f dX9_hear_24 (t := 41) rfl (by omega) ?_
      refine w_lo dX9_hear_27 rfl rfl rfl rfl ?_
      refine w_ic dX9_hear_28 zi_1 ?_
      refine w_iv dX9_hear_29 rfl rfl (As := [.int 1]) rfl rfl hJ43.1.1 zs_386 (Nat.le_of_ble_eq_true rfl) ?_
      refine ZV.imp (k_2306 1 (by have := zt_1; omega) (by have := zt_1; omega) hN hJ43.1) ?_
      rintro _ ⟨x65, M62, rfl, h66, h67, hJ63, hq64⟩
      replace hb : zHd _ := hb x65.toInt h66 h67 (zi M62) (zi_fr hJ63.2)
      have hJ69 := zJ_trans hJ43 hJ63 (zSub_cons (fun _ _ h h' hk => zIR_s (zIR_a (by omega) (by omega))) zSub_nil)
      show ZW _ _ _ _ _ _ _ (32, [some (.ref 386), some (.int x38), none], [.int x65], M62)
      refine w_ilt_t dX9_hear_32 (t := 39) rfl (by omega) ?_
      refine w_ic dX9_hear_39 zi_0 ?_
      refine w_en dX9_hear_40 rfl ?_
      exact ⟨_, _, rfl, (by have := zt_0; omega), (by have := zt_0; omega), hJ69, hb⟩
    · skip
      replace hb : zHd _ := hb.2 h61
      refine w_ceq_t dX9_hear_24 (t := 41) rfl (by omega) ?_
      refine w_ic dX9_hear_41 zi_0 ?_
      refine w_lo (ml' := [some (.ref 386), some (.int x38), some (.int 0)]) dX9_hear_42 rfl rfl rfl rfl ?_
      obtain ⟨m, hI⟩ := hb
      exact (main m) M42 x38 0 hJ43 (by have := zt_0; omega) (by have := zt_0; omega) hI
  · skip
    replace hb : zHd _ := hb.2 h55
    refine w_ieq_t dX9_hear_14 (t := 27) rfl (by omega) ?_
    refine w_lo dX9_hear_27 rfl rfl rfl rfl ?_
    refine w_ic dX9_hear_28 zi_1 ?_
    refine w_iv dX9_hear_29 rfl rfl (As := [.int 1]) rfl rfl hJ43.1.1 zs_386 (Nat.le_of_ble_eq_true rfl) ?_
    refine ZV.imp (k_2306 1 (by have := zt_1; omega) (by have := zt_1; omega) hN hJ43.1) ?_
    rintro _ ⟨x73, M70, rfl, h74, h75, hJ71, hq72⟩
    replace hb : zHd _ := hb x73.toInt h74 h75 (zi M70) (zi_fr hJ71.2)
    have hJ77 := zJ_trans hJ43 hJ71 (zSub_cons (fun _ _ h h' hk => zIR_s (zIR_a (by omega) (by omega))) zSub_nil)
    show ZW _ _ _ _ _ _ _ (32, [some (.ref 386), some (.int x38), none], [.int x73], M70)
    refine w_ilt_t dX9_hear_32 (t := 39) rfl (by omega) ?_
    refine w_ic dX9_hear_39 zi_0 ?_
    refine w_en dX9_hear_40 rfl ?_
    exact ⟨_, _, rfl, (by have := zt_0; omega), (by have := zt_0; omega), hJ77, hb⟩
set_option maxHeartbeats 4000000 in
theorem v_2090 {s0 : zF} : b_2090 s0 (fun v g => (v = 1 ∧ 1 ≤ s0 49 0 ∧ s0 0 1 = 2 * s0 49 0 ∨ v = 0 ∧ ¬(1 ≤ s0 49 0 ∧ s0 0 1 = 2 * s0 49 0)) ∧ g 0 1 = 0) := by
  refine ⟨fun n g v43_2 => n = (50 - v43_2).toNat ∧ 1 ≤ s0 49 0 ∧ s0 0 1 = 2 * s0 49 0 ∧ g 0 1 = 0, ?_, ?_⟩
  · skip
    intro x30 ex30 fx30 gx30
    intro g38 eg38
    intro x39 ex39 fx39 gx39
    refine ⟨fun h43 => ?_, fun h43 => ?_⟩
    · skip
      intro g47 rg47 
      have hn : x39 = s0 49 0 := by rw [ex39, eg38, zup_ne (Or.inl (by decide))]
      refine ⟨Or.inr ⟨rfl, by omega⟩, ?_⟩
      rw [rg47.s (by decide), eg38, zup_eq]
    · skip
      intro x49 ex49
      refine ⟨fun h51 => ?_, fun h51 => ?_⟩
      · skip
        intro g55 rg55 
        have hn : x39 = s0 49 0 := by rw [ex39, eg38, zup_ne (Or.inl (by decide))]
        refine ⟨Or.inr ⟨rfl, by omega⟩, ?_⟩
        rw [rg55.s (by decide), eg38, zup_eq]
      · skip
        have hn : x39 = s0 49 0 := by rw [ex39, eg38, zup_ne (Or.inl (by decide))]
        exact ⟨_, rfl, by omega, by omega, by rw [eg38, zup_eq]⟩
  · intro n g v43_2 rg qv43_20 qv43_21 hI
    obtain ⟨hn, h1, h2, h3⟩ := hI
    intro x1 ex1 fx1 gx1
    refine ⟨fun h5 => ?_, fun h5 => ?_⟩
    · skip
      intro x6 ex6
      refine ⟨fun _ g' => g' = g, ?_, ?_⟩
      · skip
        exact v_2091 (by omega) (by omega)
      · skip
        intro x13 hx131 hx132 g16 rg16 qg16
        intro g22 eg22
        intro x23 ex23
        have E1 : g16 = g := zFr_nl rg16
        exact ⟨_, by omega, rfl, h1, h2, by rw [eg22, zup_ne (Or.inl (by decide)), E1]; exact h3⟩
    · skip
      intro g29 eg29
      refine ⟨Or.inl ⟨rfl, h1, h2⟩, ?_⟩
      rw [eg29, zup_ne (Or.inr (by decide))]
      exact h3
set_option maxHeartbeats 4000000 in
theorem v_2410 {s0 : zF} : b_2410 s0 (fun v g => (v = 1 ∧ 1 ≤ (s0 388 (s0 386 12).toNat) ∧ s0 386 1 = 2 * (s0 388 (s0 386 12).toNat) ∨ v = 0 ∧ ¬(1 ≤ (s0 388 (s0 386 12).toNat) ∧ s0 386 1 = 2 * (s0 388 (s0 386 12).toNat))) ∧ g 386 1 = 0) := by
  refine ⟨fun n g v43_2 => n = (50 - v43_2).toNat ∧ 1 ≤ (s0 388 (s0 386 12).toNat) ∧ s0 386 1 = 2 * (s0 388 (s0 386 12).toNat) ∧ g 386 1 = 0, ?_, ?_⟩
  · skip
    intro x38 ex38 fx38 gx38
    intro g46 eg46
    intro x47 ex47 fx47 gx47
    intro x54 ex54 fx54 gx54
    refine ⟨fun h55 => ?_, fun h55 => ?_⟩
    · skip
      intro x59 ex59
      refine ⟨fun h61 => ?_, fun h61 => ?_⟩
      · skip
        intro x65 hx651 hx652 g68 rg68 
        have hn : x54 = s0 388 (s0 386 12).toNat := by rw [ex54, ex47, eg46, zup_na (by decide), zup_ne (Or.inr (by decide))]
        refine ⟨Or.inr ⟨rfl, by omega⟩, ?_⟩
        rw [rg68.s (by decide), eg46, zup_eq]
      · skip
        have hn : x54 = s0 388 (s0 386 12).toNat := by rw [ex54, ex47, eg46, zup_na (by decide), zup_ne (Or.inr (by decide))]
        exact ⟨_, rfl, by omega, by omega, by rw [eg46, zup_eq]⟩
    · skip
      intro x73 hx731 hx732 g76 rg76 
      have hn : x54 = s0 388 (s0 386 12).toNat := by rw [ex54, ex47, eg46, zup_na (by decide), zup_ne (Or.inr (by decide))]
      refine ⟨Or.inr ⟨rfl, by omega⟩, ?_⟩
      rw [rg76.s (by decide), eg46, zup_eq]
  · intro n g v43_2 rg qv43_20 qv43_21 hI
    obtain ⟨hn, h1, h2, h3⟩ := hI
    intro x1 ex1 fx1 gx1
    intro x8 ex8 fx8 gx8
    refine ⟨fun h9 => ?_, fun h9 => ?_⟩
    · skip
      intro x10 ex10
      intro x15 ex15 fx15 gx15
      intro x16 
      intro x17 ex17
      intro x19 ex19
      intro x24 ex24 fx24 gx24
      intro x25 
      intro g30 eg30
      intro x31 ex31
      exact ⟨_, by omega, rfl, h1, h2, by rw [eg30, zup_ne (Or.inl (by decide))]; exact h3⟩
    · skip
      intro g37 eg37
      refine ⟨Or.inl ⟨rfl, h1, h2⟩, ?_⟩
      rw [eg37, zup_ne (Or.inr (by decide))]
      exact h3
