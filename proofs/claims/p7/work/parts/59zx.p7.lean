/-! the answers of letter (wip/safe/vcp37.py) -/
set_option maxRecDepth 100000 in
def b_2061 (s0 : zF) (a0 : Int) (a1 : Int) (Q : Int → zF → Prop) : Prop :=
  ∀ x1 : Int, x1 = 5 * a1 → ∀ x4 : Int, x4 = zxshr a0 x1 → ∀ x6 : Int, x6 = zxand x4 31 → 0 ≤ x6 → x6 ≤ 31 → Q x6 s0
set_option maxRecDepth 100000 in
def b_2059 (s0 : zF) (a0 : Int) (a1 : Int) (a2 : Int) (Q : Int → zF → Prop) : Prop :=
  ∃ (I38 : Nat → zF → Int → Int → Int → Prop),
    ((a2 < 0 → Q (-1) s0) ∧ (0 ≤ a2 → (a2 < 6 → (¬ a0 = 0 → ∃ m : Nat, I38 m s0 a0 a1 a2) ∧ (a0 = 0 → (a1 < 0 → ∃ m : Nat, I38 m s0 a0 a1 a2) ∧ (0 ≤ a1 → ∀ b30 : Nat, (b30 : Int) = s0 (0) 3 → (b30 = 7 ∨ b30 = 28) → ∀ x34 : Int, x34 = s0 (b30) 1 → 0 ≤ x34 → x34 ≤ 12 → (a1 < x34 → ∀ x42 : Int, x42 = s0 (b30 + 1) a1.toNat → ∃ P45 : Int → zF → Prop, b_2061 s0 x42 a2 P45 ∧ ∀ x48 : Int, 0 ≤ x48 → x48 ≤ 31 → ∀ g51 : zF, zFr [] s0 g51 → P45 x48 g51 → Q x48 g51) ∧ (x34 ≤ a1 → ∃ m : Nat, I38 m s0 a0 a1 a2)))) ∧ (6 ≤ a2 → Q (-1) s0))) ∧
    (∀ (n : Nat) (g : zF) (v38_1 : Int) (v38_2 : Int) (v38_3 : Int), zFr [] s0 g → 0 ≤ v38_3 → v38_3 ≤ 5 → I38 n g v38_1 v38_2 v38_3 → (¬ v38_1 = 1 → Q (-1) g) ∧ (v38_1 = 1 → (v38_2 < 0 → Q (-1) g) ∧ (0 ≤ v38_2 → ∀ b3 : Nat, (b3 : Int) = g (0) 3 → (b3 = 7 ∨ b3 = 28) → ∀ x7 : Int, x7 = g (b3) 2 → 0 ≤ x7 → x7 ≤ 6 → (v38_2 < x7 → ∀ x15 : Int, x15 = g (b3 + 7) v38_2.toNat → ∃ P18 : Int → zF → Prop, b_2061 g x15 v38_3 P18 ∧ ∀ x21 : Int, 0 ≤ x21 → x21 ≤ 31 → ∀ g24 : zF, zFr [] g g24 → P18 x21 g24 → Q x21 g24) ∧ (x7 ≤ v38_2 → Q (-1) g))))
set_option maxRecDepth 100000 in
def b_2351 (s0 : zF) (a0 : Int) (a1 : Int) (a2 : Int) (Q : Int → zF → Prop) : Prop :=
  ∃ (I94 : Nat → zF → Int → Int → Int → Int → Prop),
    ((a0 < 0 → Q (-1) s0) ∧ (0 ≤ a0 → (1 < a0 → Q (-1) s0) ∧ (a0 ≤ 1 → (¬ a0 = 0 → ∀ x31 : Int, x31 = s0 (386) 12 → 0 ≤ x31 → x31 ≤ 1 → ∀ x38 : Int, x38 = s0 (396) x31.toNat → 0 ≤ x38 → x38 ≤ 6 → ∀ x39 : Int, x39 = x38 - 1 → (a1 < 0 → Q (-1) s0) ∧ (0 ≤ a1 → (x39 < a1 → Q (-1) s0) ∧ (a1 ≤ x39 → (a2 < 0 → Q (-1) s0) ∧ (0 ≤ a2 → (5 < a2 → Q (-1) s0) ∧ (a2 ≤ 5 → ∀ x45 : Int, x45 = 6 * x31 → ∀ x47 : Int, x47 = x45 + a1 → ∀ y52 : Int, y52 = s0 (397) x47.toNat → ∃ m : Nat, I94 m s0 a2 y52 0 y52))))) ∧ (a0 = 0 → ∀ x53 : Int, x53 = s0 (386) 12 → 0 ≤ x53 → x53 ≤ 1 → ∀ x60 : Int, x60 = s0 (388) x53.toNat → 0 ≤ x60 → x60 ≤ 12 → ∀ x61 : Int, x61 = x60 - 1 → (a1 < 0 → Q (-1) s0) ∧ (0 ≤ a1 → (x61 < a1 → Q (-1) s0) ∧ (a1 ≤ x61 → (a2 < 0 → Q (-1) s0) ∧ (0 ≤ a2 → (5 < a2 → Q (-1) s0) ∧ (a2 ≤ 5 → ∀ x67 : Int, x67 = 12 * x53 → ∀ x69 : Int, x69 = x67 + a1 → ∀ y74 : Int, y74 = s0 (389) x69.toNat → ∃ m : Nat, I94 m s0 a2 y74 0 y74)))))))) ∧
    (∀ (n : Nat) (g : zF) (v94_3 : Int) (y94_4 : Int) (v94_6 : Int) (y94_7 : Int), zFr [] s0 g → 0 ≤ v94_3 → v94_3 ≤ 5 → I94 n g v94_3 y94_4 v94_6 y94_7 → ∀ x1 : Int, (x1 = -1 ∧ y94_7 < 0 ∨ x1 = 0 ∧ y94_7 = 0 ∨ x1 = 1 ∧ 0 < y94_7) → (0 < x1 → ∀ x4 : Int, x4 = zxadd v94_6 1 → ∀ y6 : Int, y6 = y94_7 / 256 → 0 ≤ y6 → ∃ m : Nat, m < n ∧ I94 m g v94_3 y94_4 x4 y6) ∧ (x1 ≤ 0 → (v94_3 < v94_6 → ∀ x10 : Int, x10 = v94_6 - 1 → ∀ x12 : Int, x12 = x10 - v94_3 → ∀ x15 : Int, x15 = zxmul 8 x12 → ∀ y16 : Int, y16 = zxlsr y94_4 x15 → ∀ y18 : Int, y18 = zxland y16 255 → 0 ≤ y18 → y18 ≤ 255 → ∀ x22 : Int, x22 = y18 → ∀ x24 : Int, x24 = x22 - 97 → ∀ x26 : Int, x26 = x24 + 1 → Q x26 g) ∧ (v94_6 ≤ v94_3 → Q 0 g)))
set_option maxRecDepth 100000 in
theorem u_2061 {X : List Int32} {d N : Nat} {M0 : zM} (a0 : Int32) (a1 : Int32) (ha10 : (0 : Int) ≤ a1.toInt) (ha11 : a1.toInt ≤ 5) (hN : N ≤ 600) (hB0 : zB N M0) {Q : Int → zF → Prop} (hb : b_2061 (zi M0) a0.toInt a1.toInt Q) : ZV X (d + 1) 2061 [.int a0, .int a1] M0 (zRI N [] M0 (0) (31) (fun v M' => Q v.toInt (zi M'))) := by
  have hJ0 : zJ N [] M0 M0 := zJ_refl hB0
  refine ZV.of (ini := false) rfl (Nat.le_of_ble_eq_true rfl) (by decide +kernel) ?_
  unfold b_2061 at hb
  replace hb : zHd _ := hb
  show ZW _ _ _ _ _ _ _ (0, [some (.int a0), some (.int a1)], [], M0)
  refine w_lo dX8_letterOf_0 rfl rfl rfl rfl ?_
  refine w_ic dX8_letterOf_1 zi_5 ?_
  refine w_lo dX8_letterOf_2 rfl rfl rfl rfl ?_
  refine w_mulc dX8_letterOf_3 zt_5 (by have := zt_5; omega) ?_
  intro x1 h2
  have := zt_5
  replace hb : zHd _ := hb x1.toInt (by have := zt_5; omega)
  refine w_exE dX8_letterOf_4 rfl rfl ?_
  intro x4 h3
  replace hb : zHd _ := hb x4.toInt (by rw [h3, zxshr_i])
  refine w_bi dX8_letterOf_5 (c := 31) (by decide) ?_
  refine w_andE dX8_letterOf_7 (m := 31) zt_31 (by omega) ?_
  intro x6 h7 h8 h5
  replace hb : zHd _ := hb x6.toInt (by rw [h5, zxand_i, zt_31]) h7 h8
  refine w_eni dX8_letterOf_8 rfl rfl ?_
  exact ⟨_, _, rfl, (by omega), (by omega), hJ0, hb⟩
set_option maxRecDepth 100000 in
theorem u_2059 {X : List Int32} {d N : Nat} {M0 : zM} (a0 : Int32) (a1 : Int32) (a2 : Int32) (hN : N ≤ 600) (hB0 : zB N M0) {Q : Int → zF → Prop} (hb : b_2059 (zi M0) a0.toInt a1.toInt a2.toInt Q) : ZV X (d + 2) 2059 [.ref 0, .int a0, .int a1, .int a2] M0 (zRI N [] M0 (-1) (31) (fun v M' => Q v.toInt (zi M'))) := by
  have hJ0 : zJ N [] M0 M0 := zJ_refl hB0
  refine ZV.of (ini := false) rfl (Nat.le_of_ble_eq_true rfl) (by decide +kernel) ?_
  obtain ⟨I38, hbE, hb38⟩ := hb
  replace hbE : zHd _ := hbE
  replace hb38 : zHd _ := hb38
  have main : ∀ n : Nat,
      (∀ (M : zM) (v38_1 : Int32) (v38_2 : Int32) (v38_3 : Int32), zJ N [] M0 M → ((-2147483648 : Int) ≤ v38_1.toInt) → (v38_1.toInt ≤ 2147483647) → ((-2147483648 : Int) ≤ v38_2.toInt) → (v38_2.toInt ≤ 2147483647) → ((0 : Int) ≤ v38_3.toInt) → (v38_3.toInt ≤ 5) → I38 n (zi M) v38_1.toInt v38_2.toInt v38_3.toInt → ZW X (d + 1) 8 false (some .int) cX8_letter (zRI N [] M0 (-1) (31) (fun v M' => Q v.toInt (zi M'))) (38, [some (.ref 0), some (.int v38_1), some (.int v38_2), some (.int v38_3)], [], M)) := by
    intro n
    induction n using Nat.strongRecOn with
    | _ n ih =>
      · intro M v38_1 v38_2 v38_3 hJ v38_10 v38_11 v38_20 v38_21 v38_30 v38_31 hI
        have hb : zHd _ := hb38 n (zi M) v38_1.toInt v38_2.toInt v38_3.toInt (zi_fr hJ.2) v38_30 v38_31 hI
        refine w_lo dX8_letter_38 rfl rfl rfl rfl ?_
        refine w_ic dX8_letter_39 zi_1 ?_
        rcases Int.decEq v38_1.toInt (1 : Int) with h1 | h1
        · skip
          replace hb : zHd _ := hb.1 h1
          refine w_cne_t dX8_letter_40 (t := 65) rfl (by have := zt_1; omega) ?_
          refine w_ic dX8_letter_65 zi_m1 ?_
          refine w_en dX8_letter_66 rfl ?_
          exact ⟨_, _, rfl, (by have := zt_m1; omega), (by have := zt_m1; omega), hJ, hb⟩
        · skip
          replace hb : zHd _ := hb.2 h1
          refine w_cne_f dX8_letter_40 (t := 65) rfl (by have := zt_1; omega) ?_
          refine w_lo dX8_letter_43 rfl rfl rfl rfl ?_
          refine w_lo dX8_letter_44 rfl rfl rfl rfl ?_
          refine w_iv dX8_letter_45 rfl rfl (As := [.int v38_2]) rfl rfl hJ.1.1 zs_0 (Nat.le_of_ble_eq_true rfl) ?_
          refine ZV.of (ini := false) rfl (Nat.le_of_ble_eq_true rfl) (by decide +kernel) ?_
          show ZW _ _ _ _ _ _ _ (0, [some (.ref 0), some (.int v38_2)], [], M)
          refine w_lo dX8_isDream_0 rfl rfl rfl rfl ?_
          rcases zcut v38_2.toInt (0 : Int) with h2 | h2
          · skip
            replace hb : zHd _ := hb.1 h2
            refine w_ilt_t dX8_isDream_1 (t := 19) rfl (by omega) ?_
            refine w_ic dX8_isDream_19 zi_0 ?_
            refine w_en dX8_isDream_20 rfl ?_
            show ZW _ _ _ _ _ _ _ (48, [some (.ref 0), some (.int v38_1), some (.int v38_2), some (.int v38_3)], [.int 0], M)
            refine w_ieq_t dX8_letter_48 (t := 65) rfl (by have := zt_0; omega) ?_
            refine w_ic dX8_letter_65 zi_m1 ?_
            refine w_en dX8_letter_66 rfl ?_
            exact ⟨_, _, rfl, (by have := zt_m1; omega), (by have := zt_m1; omega), hJ, hb⟩
          · skip
            replace hb : zHd _ := hb.2 h2
            refine w_ilt_f dX8_isDream_1 (t := 19) rfl (by omega) ?_
            refine w_lo dX8_isDream_4 rfl rfl rfl rfl ?_
            refine w_lo dX8_isDream_5 rfl rfl rfl rfl ?_
            obtain ⟨b3, f4, h5⟩ := zd_0_3 hJ.1
            have h6 := zDm_b h5
            refine w_gf dX8_isDream_6 rfl hJ.1.1 zs_0 f4 ?_
            replace hb : zHd _ := hb b3 (ziR f4) (zDm_or h5)
            refine w_gfi dX8_isDream_9 rfl hJ.1 (zs_1_0 h5) (Nat.le_of_ble_eq_true rfl) (zo_1_0_2 h5) ?_
            intro x7 f8 h9 h10
            replace hb : zHd _ := hb x7.toInt (ziE f8) h9 h10
            rcases zcut v38_2.toInt x7.toInt with h11 | h11
            · skip
              replace hb : zHd _ := hb.1 h11
              refine w_cge_f dX8_isDream_12 (t := 19) rfl (by omega) ?_
              refine w_ic dX8_isDream_15 zi_1 ?_
              refine w_gt dX8_isDream_16 (t := 20) rfl ?_
              refine w_en dX8_isDream_20 rfl ?_
              show ZW _ _ _ _ _ _ _ (48, [some (.ref 0), some (.int v38_1), some (.int v38_2), some (.int v38_3)], [.int 1], M)
              refine w_ieq_f dX8_letter_48 (t := 65) rfl (by have := zt_1; omega) ?_
              refine w_lo dX8_letter_51 rfl rfl rfl rfl ?_
              refine w_gf dX8_letter_52 rfl hJ.1.1 zs_0 f4 ?_
              refine w_gf dX8_letter_55 rfl hJ.1.1 (zs_1_0 h5) (zr_1_0_9 h5 hJ.1) ?_
              refine w_lo dX8_letter_58 rfl rfl rfl rfl ?_
              refine w_iai dX8_letter_59 hJ.1 (zs_1_7 h5) (by omega) (by omega) (zu_1_7 h5) ?_
              intro x15 f12 h13 h14
              replace hb : zHd _ := hb x15.toInt (ziEk f12 rfl)
              refine w_lo dX8_letter_60 rfl rfl rfl rfl ?_
              refine w_ss dX8_letter_61 rfl rfl (As := [.int x15, .int v38_3]) rfl rfl (Nat.le_of_ble_eq_true rfl) ?_
              obtain ⟨P18, hp19, hb⟩ := hb
              replace hb : zHd _ := hb
              refine ZV.imp (u_2061 x15 v38_3 (by omega) (by omega) hN hJ.1 hp19) ?_
              rintro _ ⟨x21, M16, rfl, h22, h23, hJ17, hq20⟩
              replace hb : zHd _ := hb x21.toInt h22 h23 (zi M16) (zi_fr hJ17.2) hq20
              have hJ25 := zJ_trans hJ hJ17 zSub_nil
              show ZW _ _ _ _ _ _ _ (64, [some (.ref 0), some (.int v38_1), some (.int v38_2), some (.int v38_3)], [.int x21], M16)
              refine w_eni dX8_letter_64 rfl rfl ?_
              exact ⟨_, _, rfl, (by omega), (by omega), hJ25, hb⟩
            · skip
              replace hb : zHd _ := hb.2 h11
              refine w_cge_t dX8_isDream_12 (t := 19) rfl (by omega) ?_
              refine w_ic dX8_isDream_19 zi_0 ?_
              refine w_en dX8_isDream_20 rfl ?_
              show ZW _ _ _ _ _ _ _ (48, [some (.ref 0), some (.int v38_1), some (.int v38_2), some (.int v38_3)], [.int 0], M)
              refine w_ieq_t dX8_letter_48 (t := 65) rfl (by have := zt_0; omega) ?_
              refine w_ic dX8_letter_65 zi_m1 ?_
              refine w_en dX8_letter_66 rfl ?_
              exact ⟨_, _, rfl, (by have := zt_m1; omega), (by have := zt_m1; omega), hJ, hb⟩
  have hb : zHd _ := hbE
  show ZW _ _ _ _ _ _ _ (0, [some (.ref 0), some (.int a0), some (.int a1), some (.int a2)], [], M0)
  refine w_lo dX8_letter_0 rfl rfl rfl rfl ?_
  rcases zcut a2.toInt (0 : Int) with h26 | h26
  · skip
    replace hb : zHd _ := hb.1 h26
    refine w_ilt_t dX8_letter_1 (t := 10) rfl (by omega) ?_
    refine w_ic dX8_letter_10 zi_m1 ?_
    refine w_en dX8_letter_11 rfl ?_
    exact ⟨_, _, rfl, (by have := zt_m1; omega), (by have := zt_m1; omega), hJ0, hb⟩
  · skip
    replace hb : zHd _ := hb.2 h26
    refine w_ilt_f dX8_letter_1 (t := 10) rfl (by omega) ?_
    refine w_lo dX8_letter_4 rfl rfl rfl rfl ?_
    refine w_bi dX8_letter_5 (c := 6) (by decide) ?_
    rcases zcut a2.toInt (6 : Int) with h27 | h27
    · skip
      replace hb : zHd _ := hb.1 h27
      refine w_clt_t dX8_letter_7 (t := 12) rfl (by have := zt_6; omega) ?_
      refine w_lo dX8_letter_12 rfl rfl rfl rfl ?_
      rcases Int.decEq a0.toInt (0 : Int) with h28 | h28
      · skip
        replace hb : zHd _ := hb.1 h28
        refine w_ine_t dX8_letter_13 (t := 38) rfl (by omega) ?_
        obtain ⟨m, hI⟩ := hb
        exact (main m) M0 a0 a1 a2 hJ0 (zbot _) (ztop _) (zbot _) (ztop _) (by omega) (by omega) hI
      · skip
        replace hb : zHd _ := hb.2 h28
        refine w_ine_f dX8_letter_13 (t := 38) rfl (by omega) ?_
        refine w_lo dX8_letter_16 rfl rfl rfl rfl ?_
        refine w_lo dX8_letter_17 rfl rfl rfl rfl ?_
        refine w_iv dX8_letter_18 rfl rfl (As := [.int a1]) rfl rfl hJ0.1.1 zs_0 (Nat.le_of_ble_eq_true rfl) ?_
        refine ZV.of (ini := false) rfl (Nat.le_of_ble_eq_true rfl) (by decide +kernel) ?_
        show ZW _ _ _ _ _ _ _ (0, [some (.ref 0), some (.int a1)], [], M0)
        refine w_lo dX8_isBoy_0 rfl rfl rfl rfl ?_
        rcases zcut a1.toInt (0 : Int) with h29 | h29
        · skip
          replace hb : zHd _ := hb.1 h29
          refine w_ilt_t dX8_isBoy_1 (t := 19) rfl (by omega) ?_
          refine w_ic dX8_isBoy_19 zi_0 ?_
          refine w_en dX8_isBoy_20 rfl ?_
          show ZW _ _ _ _ _ _ _ (21, [some (.ref 0), some (.int a0), some (.int a1), some (.int a2)], [.int 0], M0)
          refine w_ieq_t dX8_letter_21 (t := 38) rfl (by have := zt_0; omega) ?_
          obtain ⟨m, hI⟩ := hb
          exact (main m) M0 a0 a1 a2 hJ0 (zbot _) (ztop _) (zbot _) (ztop _) (by omega) (by omega) hI
        · skip
          replace hb : zHd _ := hb.2 h29
          refine w_ilt_f dX8_isBoy_1 (t := 19) rfl (by omega) ?_
          refine w_lo dX8_isBoy_4 rfl rfl rfl rfl ?_
          refine w_lo dX8_isBoy_5 rfl rfl rfl rfl ?_
          obtain ⟨b30, f31, h32⟩ := zd_0_3 hJ0.1
          have h33 := zDm_b h32
          refine w_gf dX8_isBoy_6 rfl hJ0.1.1 zs_0 f31 ?_
          replace hb : zHd _ := hb b30 (ziR f31) (zDm_or h32)
          refine w_gfi dX8_isBoy_9 rfl hJ0.1 (zs_1_0 h32) (Nat.le_of_ble_eq_true rfl) (zo_1_0_1 h32) ?_
          intro x34 f35 h36 h37
          replace hb : zHd _ := hb x34.toInt (ziE f35) h36 h37
          rcases zcut a1.toInt x34.toInt with h38 | h38
          · skip
            replace hb : zHd _ := hb.1 h38
            refine w_cge_f dX8_isBoy_12 (t := 19) rfl (by omega) ?_
            refine w_ic dX8_isBoy_15 zi_1 ?_
            refine w_gt dX8_isBoy_16 (t := 20) rfl ?_
            refine w_en dX8_isBoy_20 rfl ?_
            show ZW _ _ _ _ _ _ _ (21, [some (.ref 0), some (.int a0), some (.int a1), some (.int a2)], [.int 1], M0)
            refine w_ieq_f dX8_letter_21 (t := 38) rfl (by have := zt_1; omega) ?_
            refine w_lo dX8_letter_24 rfl rfl rfl rfl ?_
            refine w_gf dX8_letter_25 rfl hJ0.1.1 zs_0 f31 ?_
            refine w_gf dX8_letter_28 rfl hJ0.1.1 (zs_1_0 h32) (zr_1_0_3 h32 hJ0.1) ?_
            refine w_lo dX8_letter_31 rfl rfl rfl rfl ?_
            refine w_iai dX8_letter_32 hJ0.1 (zs_1_1 h32) (by omega) (by omega) (zu_1_1 h32) ?_
            intro x42 f39 h40 h41
            replace hb : zHd _ := hb x42.toInt (ziEk f39 rfl)
            refine w_lo dX8_letter_33 rfl rfl rfl rfl ?_
            refine w_ss dX8_letter_34 rfl rfl (As := [.int x42, .int a2]) rfl rfl (Nat.le_of_ble_eq_true rfl) ?_
            obtain ⟨P45, hp46, hb⟩ := hb
            replace hb : zHd _ := hb
            refine ZV.imp (u_2061 x42 a2 (by omega) (by omega) hN hJ0.1 hp46) ?_
            rintro _ ⟨x48, M43, rfl, h49, h50, hJ44, hq47⟩
            replace hb : zHd _ := hb x48.toInt h49 h50 (zi M43) (zi_fr hJ44.2) hq47
            have hJ52 := zJ_trans hJ0 hJ44 zSub_nil
            show ZW _ _ _ _ _ _ _ (37, [some (.ref 0), some (.int a0), some (.int a1), some (.int a2)], [.int x48], M43)
            refine w_eni dX8_letter_37 rfl rfl ?_
            exact ⟨_, _, rfl, (by omega), (by omega), hJ52, hb⟩
          · skip
            replace hb : zHd _ := hb.2 h38
            refine w_cge_t dX8_isBoy_12 (t := 19) rfl (by omega) ?_
            refine w_ic dX8_isBoy_19 zi_0 ?_
            refine w_en dX8_isBoy_20 rfl ?_
            show ZW _ _ _ _ _ _ _ (21, [some (.ref 0), some (.int a0), some (.int a1), some (.int a2)], [.int 0], M0)
            refine w_ieq_t dX8_letter_21 (t := 38) rfl (by have := zt_0; omega) ?_
            obtain ⟨m, hI⟩ := hb
            exact (main m) M0 a0 a1 a2 hJ0 (zbot _) (ztop _) (zbot _) (ztop _) (by omega) (by omega) hI
    · skip
      replace hb : zHd _ := hb.2 h27
      refine w_clt_f dX8_letter_7 (t := 12) rfl (by have := zt_6; omega) ?_
      refine w_ic dX8_letter_10 zi_m1 ?_
      refine w_en dX8_letter_11 rfl ?_
      exact ⟨_, _, rfl, (by have := zt_m1; omega), (by have := zt_m1; omega), hJ0, hb⟩
set_option maxRecDepth 100000 in
theorem u_2351 {X : List Int32} {d N : Nat} {M0 : zM} (a0 : Int32) (a1 : Int32) (a2 : Int32) (hN : N ≤ 600) (hB0 : zB N M0) {Q : Int → zF → Prop} (hb : b_2351 (zi M0) a0.toInt a1.toInt a2.toInt Q) : ZV X (d + 2) 2351 [.ref 386, .int a0, .int a1, .int a2] M0 (zRI N [] M0 (-2147483648) (198) (fun v M' => Q v.toInt (zi M'))) := by
  have hJ0 : zJ N [] M0 M0 := zJ_refl hB0
  refine ZV.of (ini := false) rfl (Nat.le_of_ble_eq_true rfl) (by decide +kernel) ?_
  obtain ⟨I94, hbE, hb94⟩ := hb
  replace hbE : zHd _ := hbE
  replace hb94 : zHd _ := hb94
  have main : ∀ n : Nat,
      (∀ (M : zM) (o94_0 : Option Value) (u94_1 : Int32) (u94_2 : Int32) (v94_3 : Int32) (y94_4 : Int64) (v94_6 : Int32) (y94_7 : Int64), zJ N [] M0 M → ((0 : Int) ≤ v94_3.toInt) → (v94_3.toInt ≤ 5) → ((-9223372036854775808 : Int) ≤ y94_4.toInt) → (y94_4.toInt ≤ 9223372036854775807) → ((-2147483648 : Int) ≤ v94_6.toInt) → (v94_6.toInt ≤ 2147483647) → ((-9223372036854775808 : Int) ≤ y94_7.toInt) → (y94_7.toInt ≤ 9223372036854775807) → I94 n (zi M) v94_3.toInt y94_4.toInt v94_6.toInt y94_7.toInt → ZW X (d + 1) 9 false (some .int) cX9_letter (zRI N [] M0 (-2147483648) (198) (fun v M' => Q v.toInt (zi M'))) (94, [o94_0, some (.int u94_1), some (.int u94_2), some (.int v94_3), some (.long y94_4), none, some (.int v94_6), some (.long y94_7), none], [], M)) := by
    intro n
    induction n using Nat.strongRecOn with
    | _ n ih =>
      · intro M o94_0 u94_1 u94_2 v94_3 y94_4 v94_6 y94_7 hJ v94_30 v94_31 y94_40 y94_41 v94_60 v94_61 y94_70 y94_71 hI
        have hb : zHd _ := hb94 n (zi M) v94_3.toInt y94_4.toInt v94_6.toInt y94_7.toInt (zi_fr hJ.2) v94_30 v94_31 hI
        refine w_lo dX9_letter_94 rfl rfl rfl rfl ?_
        refine w_lc dX9_letter_96 (c := (0 : Int64)) (by decide) ?_
        refine w_lcm dX9_letter_97 ?_
        intro x1 h2
        have := ztl_0
        replace hb : zHd _ := hb x1.toInt (by omega)
        rcases zcut (0 : Int) x1.toInt with h3 | h3
        · skip
          replace hb : zHd _ := hb.1 h3
          refine w_ile_f dX9_letter_98 (t := 114) rfl (by omega) ?_
          refine w_incE (kk := 6) dX9_letter_101 rfl (m := 1) (by decide) ?_
          intro x4 h5
          refine ⟨_, rfl, ?_⟩
          replace hb : zHd _ := hb x4.toInt h5
          show ZW _ _ _ _ _ _ _ (104, [o94_0, some (.int u94_1), some (.int u94_2), some (.int v94_3), some (.long y94_4), none, some (.int x4), some (.long y94_7), none], [], M)
          refine w_lo dX9_letter_104 rfl rfl rfl rfl ?_
          refine w_bi dX9_letter_106 (c := 8) (by decide) ?_
          refine w_lshrP dX9_letter_108 (m := 8) (p := 256) (by decide) (by decide) (by omega) ?_
          intro y6 h7 h8
          replace hb : zHd _ := hb y6.toInt h8 (by omega)
          refine w_lo (ml' := [o94_0, some (.int u94_1), some (.int u94_2), some (.int v94_3), some (.long y94_4), none, some (.int x4), some (.long y6), none]) dX9_letter_109 rfl rfl rfl rfl ?_
          refine w_gt dX9_letter_111 (t := 94) rfl ?_
          obtain ⟨m, hm, hI⟩ := hb
          exact (ih m hm) M o94_0 u94_1 u94_2 v94_3 y94_4 x4 y6 hJ (by omega) (by omega) (zlbot _) (zltop _) (zbot _) (ztop _) (zlbot _) (zltop _) hI
        · skip
          replace hb : zHd _ := hb.2 h3
          refine w_ile_t dX9_letter_98 (t := 114) rfl (by omega) ?_
          refine w_lo dX9_letter_114 rfl rfl rfl rfl ?_
          refine w_lo dX9_letter_115 rfl rfl rfl rfl ?_
          rcases zcut v94_3.toInt v94_6.toInt with h9 | h9
          · skip
            replace hb : zHd _ := hb.1 h9
            refine w_clt_t dX9_letter_117 (t := 124) rfl (by omega) ?_
            refine w_lo dX9_letter_124 rfl rfl rfl rfl ?_
            refine w_bi dX9_letter_126 (c := 8) (by decide) ?_
            refine w_lo dX9_letter_128 rfl rfl rfl rfl ?_
            refine w_ic dX9_letter_130 zi_1 ?_
            refine w_sub dX9_letter_131 (by have := zt_1; omega) ?_
            intro x10 h11
            have := zt_1
            replace hb : zHd _ := hb x10.toInt (by have := zt_1; omega)
            refine w_lo dX9_letter_132 rfl rfl rfl rfl ?_
            refine w_sub dX9_letter_133 (by omega) ?_
            intro x12 h13
            replace hb : zHd _ := hb x12.toInt (by omega)
            refine w_exE dX9_letter_134 rfl rfl ?_
            intro x15 h14
            replace hb : zHd _ := hb x15.toInt (by rw [h14, zxmul_i, zt_8])
            refine w_exL dX9_letter_135 rfl rfl ?_
            intro y16 h17
            replace hb : zHd _ := hb y16.toInt (by rw [h17, zxlsr_i])
            refine w_me (st' := [.long (255 : Int64), .long y16]) dX9_letter_136 rfl rfl rfl rfl rfl ?_
            refine w_landE dX9_letter_139 (m := 255) ztl_255 ?_
            intro y18 h19 h20 h21
            replace hb : zHd _ := hb y18.toInt (by rw [h21, zxland_i, ztl_255]) h19 h20
            refine w_l2i dX9_letter_140 (by omega) ?_
            intro x22 h23
            skip
            replace hb : zHd _ := hb x22.toInt (by omega)
            refine w_bi dX9_letter_141 (c := 97) (by decide) ?_
            refine w_sub dX9_letter_143 (by have := zt_97; omega) ?_
            intro x24 h25
            have := zt_97
            replace hb : zHd _ := hb x24.toInt (by have := zt_97; omega)
            refine w_ic dX9_letter_144 zi_1 ?_
            refine w_add dX9_letter_145 (by have := zt_1; omega) ?_
            intro x26 h27
            have := zt_1
            replace hb : zHd _ := hb x26.toInt (by have := zt_1; omega)
            refine w_eni dX9_letter_146 rfl rfl ?_
            exact ⟨_, _, rfl, (zbot _), (by omega), hJ, hb⟩
          · skip
            replace hb : zHd _ := hb.2 h9
            refine w_clt_f dX9_letter_117 (t := 124) rfl (by omega) ?_
            refine w_ic dX9_letter_120 zi_0 ?_
            refine w_gt dX9_letter_121 (t := 146) rfl ?_
            refine w_en dX9_letter_146 rfl ?_
            exact ⟨_, _, rfl, (zbot _), (by have := zt_0; omega), hJ, hb⟩
  have hb : zHd _ := hbE
  show ZW _ _ _ _ _ _ _ (0, [some (.ref 386), some (.int a0), some (.int a1), some (.int a2), none, none, none, none, none], [], M0)
  refine w_lo dX9_letter_0 rfl rfl rfl rfl ?_
  refine w_ic dX9_letter_1 zi_0 ?_
  refine w_ic dX9_letter_2 zi_1 ?_
  refine w_ss dX9_letter_3 rfl rfl (As := [.int a0, .int 0, .int 1]) rfl rfl (Nat.le_of_ble_eq_true rfl) ?_
  refine ZV.of (ini := false) rfl (Nat.le_of_ble_eq_true rfl) (by decide +kernel) ?_
  show ZW _ _ _ _ _ _ _ (0, [some (.int a0), some (.int 0), some (.int 1)], [], M0)
  refine w_lo dX9_is_0 rfl rfl rfl rfl ?_
  refine w_lo dX9_is_1 rfl rfl rfl rfl ?_
  rcases zcut a0.toInt (0 : Int) with h28 | h28
  · skip
    replace hb : zHd _ := hb.1 h28
    refine w_clt_t dX9_is_2 (t := 14) rfl (by have := zt_0; omega) ?_
    refine w_ic dX9_is_14 zi_0 ?_
    refine w_en dX9_is_15 rfl ?_
    show ZW _ _ _ _ _ _ _ (6, [some (.ref 386), some (.int a0), some (.int a1), some (.int a2), none, none, none, none, none], [.int 0], M0)
    refine w_ieq_t dX9_letter_6 (t := 48) rfl (by have := zt_0; omega) ?_
    refine w_ic dX9_letter_48 zi_m1 ?_
    refine w_en dX9_letter_49 rfl ?_
    exact ⟨_, _, rfl, (zbot _), (by have := zt_m1; omega), hJ0, hb⟩
  · skip
    replace hb : zHd _ := hb.2 h28
    refine w_clt_f dX9_is_2 (t := 14) rfl (by have := zt_0; omega) ?_
    refine w_lo dX9_is_5 rfl rfl rfl rfl ?_
    refine w_lo dX9_is_6 rfl rfl rfl rfl ?_
    rcases zcut (1 : Int) a0.toInt with h29 | h29
    · skip
      replace hb : zHd _ := hb.1 h29
      refine w_cgt_t dX9_is_7 (t := 14) rfl (by have := zt_1; omega) ?_
      refine w_ic dX9_is_14 zi_0 ?_
      refine w_en dX9_is_15 rfl ?_
      show ZW _ _ _ _ _ _ _ (6, [some (.ref 386), some (.int a0), some (.int a1), some (.int a2), none, none, none, none, none], [.int 0], M0)
      refine w_ieq_t dX9_letter_6 (t := 48) rfl (by have := zt_0; omega) ?_
      refine w_ic dX9_letter_48 zi_m1 ?_
      refine w_en dX9_letter_49 rfl ?_
      exact ⟨_, _, rfl, (zbot _), (by have := zt_m1; omega), hJ0, hb⟩
    · skip
      replace hb : zHd _ := hb.2 h29
      refine w_cgt_f dX9_is_7 (t := 14) rfl (by have := zt_1; omega) ?_
      refine w_ic dX9_is_10 zi_1 ?_
      refine w_gt dX9_is_11 (t := 15) rfl ?_
      refine w_en dX9_is_15 rfl ?_
      show ZW _ _ _ _ _ _ _ (6, [some (.ref 386), some (.int a0), some (.int a1), some (.int a2), none, none, none, none, none], [.int 1], M0)
      refine w_ieq_f dX9_letter_6 (t := 48) rfl (by have := zt_1; omega) ?_
      refine w_lo dX9_letter_9 rfl rfl rfl rfl ?_
      refine w_ic dX9_letter_10 zi_0 ?_
      refine w_lo dX9_letter_11 rfl rfl rfl rfl ?_
      rcases Int.decEq a0.toInt (0 : Int) with h30 | h30
      · skip
        replace hb : zHd _ := hb.1 h30
        refine w_ine_t dX9_letter_12 (t := 22) rfl (by omega) ?_
        refine w_lo dX9_letter_22 rfl rfl rfl rfl ?_
        refine w_gf dX9_letter_23 rfl hJ0.1.1 zs_386 (zr_386_21 hJ0.1) ?_
        refine w_lo dX9_letter_26 rfl rfl rfl rfl ?_
        refine w_gfi dX9_letter_27 rfl hJ0.1 zs_386 (Nat.le_of_ble_eq_true rfl) zo_386_12 ?_
        intro x31 f32 h33 h34
        replace hb : zHd _ := hb x31.toInt (ziE f32) h33 h34
        refine w_iai dX9_letter_30 hJ0.1 zs_396 (by omega) (by omega) zu_396 ?_
        intro x38 f35 h36 h37
        replace hb : zHd _ := hb x38.toInt (ziEk f35 rfl) h36 h37
        refine w_ic dX9_letter_31 zi_1 ?_
        refine w_sub dX9_letter_32 (by have := zt_1; omega) ?_
        intro x39 h40
        have := zt_1
        replace hb : zHd _ := hb x39.toInt (by have := zt_1; omega)
        refine w_ss dX9_letter_33 rfl rfl (As := [.int a1, .int 0, .int x39]) rfl rfl (Nat.le_of_ble_eq_true rfl) ?_
        refine ZV.of (ini := false) rfl (Nat.le_of_ble_eq_true rfl) (by decide +kernel) ?_
        show ZW _ _ _ _ _ _ _ (0, [some (.int a1), some (.int 0), some (.int x39)], [], M0)
        refine w_lo dX9_is_0 rfl rfl rfl rfl ?_
        refine w_lo dX9_is_1 rfl rfl rfl rfl ?_
        rcases zcut a1.toInt (0 : Int) with h41 | h41
        · skip
          replace hb : zHd _ := hb.1 h41
          refine w_clt_t dX9_is_2 (t := 14) rfl (by have := zt_0; omega) ?_
          refine w_ic dX9_is_14 zi_0 ?_
          refine w_en dX9_is_15 rfl ?_
          show ZW _ _ _ _ _ _ _ (36, [some (.ref 386), some (.int a0), some (.int a1), some (.int a2), none, none, none, none, none], [.int 0], M0)
          refine w_ieq_t dX9_letter_36 (t := 48) rfl (by have := zt_0; omega) ?_
          refine w_ic dX9_letter_48 zi_m1 ?_
          refine w_en dX9_letter_49 rfl ?_
          exact ⟨_, _, rfl, (zbot _), (by have := zt_m1; omega), hJ0, hb⟩
        · skip
          replace hb : zHd _ := hb.2 h41
          refine w_clt_f dX9_is_2 (t := 14) rfl (by have := zt_0; omega) ?_
          refine w_lo dX9_is_5 rfl rfl rfl rfl ?_
          refine w_lo dX9_is_6 rfl rfl rfl rfl ?_
          rcases zcut x39.toInt a1.toInt with h42 | h42
          · skip
            replace hb : zHd _ := hb.1 h42
            refine w_cgt_t dX9_is_7 (t := 14) rfl (by omega) ?_
            refine w_ic dX9_is_14 zi_0 ?_
            refine w_en dX9_is_15 rfl ?_
            show ZW _ _ _ _ _ _ _ (36, [some (.ref 386), some (.int a0), some (.int a1), some (.int a2), none, none, none, none, none], [.int 0], M0)
            refine w_ieq_t dX9_letter_36 (t := 48) rfl (by have := zt_0; omega) ?_
            refine w_ic dX9_letter_48 zi_m1 ?_
            refine w_en dX9_letter_49 rfl ?_
            exact ⟨_, _, rfl, (zbot _), (by have := zt_m1; omega), hJ0, hb⟩
          · skip
            replace hb : zHd _ := hb.2 h42
            refine w_cgt_f dX9_is_7 (t := 14) rfl (by omega) ?_
            refine w_ic dX9_is_10 zi_1 ?_
            refine w_gt dX9_is_11 (t := 15) rfl ?_
            refine w_en dX9_is_15 rfl ?_
            show ZW _ _ _ _ _ _ _ (36, [some (.ref 386), some (.int a0), some (.int a1), some (.int a2), none, none, none, none, none], [.int 1], M0)
            refine w_ieq_f dX9_letter_36 (t := 48) rfl (by have := zt_1; omega) ?_
            refine w_lo dX9_letter_39 rfl rfl rfl rfl ?_
            refine w_ic dX9_letter_40 zi_0 ?_
            refine w_ic dX9_letter_41 zi_5 ?_
            refine w_ss dX9_letter_42 rfl rfl (As := [.int a2, .int 0, .int 5]) rfl rfl (Nat.le_of_ble_eq_true rfl) ?_
            refine ZV.of (ini := false) rfl (Nat.le_of_ble_eq_true rfl) (by decide +kernel) ?_
            show ZW _ _ _ _ _ _ _ (0, [some (.int a2), some (.int 0), some (.int 5)], [], M0)
            refine w_lo dX9_is_0 rfl rfl rfl rfl ?_
            refine w_lo dX9_is_1 rfl rfl rfl rfl ?_
            rcases zcut a2.toInt (0 : Int) with h43 | h43
            · skip
              replace hb : zHd _ := hb.1 h43
              refine w_clt_t dX9_is_2 (t := 14) rfl (by have := zt_0; omega) ?_
              refine w_ic dX9_is_14 zi_0 ?_
              refine w_en dX9_is_15 rfl ?_
              show ZW _ _ _ _ _ _ _ (45, [some (.ref 386), some (.int a0), some (.int a1), some (.int a2), none, none, none, none, none], [.int 0], M0)
              refine w_ine_f dX9_letter_45 (t := 50) rfl (by have := zt_0; omega) ?_
              refine w_ic dX9_letter_48 zi_m1 ?_
              refine w_en dX9_letter_49 rfl ?_
              exact ⟨_, _, rfl, (zbot _), (by have := zt_m1; omega), hJ0, hb⟩
            · skip
              replace hb : zHd _ := hb.2 h43
              refine w_clt_f dX9_is_2 (t := 14) rfl (by have := zt_0; omega) ?_
              refine w_lo dX9_is_5 rfl rfl rfl rfl ?_
              refine w_lo dX9_is_6 rfl rfl rfl rfl ?_
              rcases zcut (5 : Int) a2.toInt with h44 | h44
              · skip
                replace hb : zHd _ := hb.1 h44
                refine w_cgt_t dX9_is_7 (t := 14) rfl (by have := zt_5; omega) ?_
                refine w_ic dX9_is_14 zi_0 ?_
                refine w_en dX9_is_15 rfl ?_
                show ZW _ _ _ _ _ _ _ (45, [some (.ref 386), some (.int a0), some (.int a1), some (.int a2), none, none, none, none, none], [.int 0], M0)
                refine w_ine_f dX9_letter_45 (t := 50) rfl (by have := zt_0; omega) ?_
                refine w_ic dX9_letter_48 zi_m1 ?_
                refine w_en dX9_letter_49 rfl ?_
                exact ⟨_, _, rfl, (zbot _), (by have := zt_m1; omega), hJ0, hb⟩
              · skip
                replace hb : zHd _ := hb.2 h44
                refine w_cgt_f dX9_is_7 (t := 14) rfl (by have := zt_5; omega) ?_
                refine w_ic dX9_is_10 zi_1 ?_
                refine w_gt dX9_is_11 (t := 15) rfl ?_
                refine w_en dX9_is_15 rfl ?_
                show ZW _ _ _ _ _ _ _ (45, [some (.ref 386), some (.int a0), some (.int a1), some (.int a2), none, none, none, none, none], [.int 1], M0)
                refine w_ine_t dX9_letter_45 (t := 50) rfl (by have := zt_1; omega) ?_
                refine w_lo dX9_letter_50 rfl rfl rfl rfl ?_
                refine w_ine_t dX9_letter_51 (t := 71) rfl (by omega) ?_
                refine w_lo dX9_letter_71 rfl rfl rfl rfl ?_
                refine w_gf dX9_letter_72 rfl hJ0.1.1 zs_386 (zr_386_22 hJ0.1) ?_
                refine w_bi dX9_letter_75 (c := 6) (by decide) ?_
                refine w_lo dX9_letter_77 rfl rfl rfl rfl ?_
                refine w_gf dX9_letter_78 rfl hJ0.1.1 zs_386 f32 ?_
                refine w_mulc dX9_letter_81 zt_6 (by have := zt_6; omega) ?_
                intro x45 h46
                have := zt_6
                replace hb : zHd _ := hb x45.toInt (by have := zt_6; omega)
                refine w_lo dX9_letter_82 rfl rfl rfl rfl ?_
                refine w_add dX9_letter_83 (by omega) ?_
                intro x47 h48
                replace hb : zHd _ := hb x47.toInt (by omega)
                refine w_lal dX9_letter_84 hJ0.1 zs_397 (by omega) (by omega) zu_397 ?_
                intro y52 f49
                replace hb : zHd _ := hb y52.toInt (ziLk f49 rfl)
                refine w_lo (ml' := [some (.ref 386), some (.int a0), some (.int a1), some (.int a2), some (.long y52), none, none, none, none]) dX9_letter_85 rfl rfl rfl rfl ?_
                refine w_ic dX9_letter_87 zi_0 ?_
                refine w_lo (ml' := [some (.ref 386), some (.int a0), some (.int a1), some (.int a2), some (.long y52), none, some (.int 0), none, none]) dX9_letter_88 rfl rfl rfl rfl ?_
                refine w_lo dX9_letter_90 rfl rfl rfl rfl ?_
                refine w_lo (ml' := [some (.ref 386), some (.int a0), some (.int a1), some (.int a2), some (.long y52), none, some (.int 0), some (.long y52), none]) dX9_letter_92 rfl rfl rfl rfl ?_
                obtain ⟨m, hI⟩ := hb
                exact (main m) M0 (some (.ref 386)) a0 a1 a2 y52 0 y52 hJ0 (by omega) (by omega) (zlbot _) (zltop _) (zbot _) (ztop _) (zlbot _) (zltop _) hI
      · skip
        replace hb : zHd _ := hb.2 h30
        refine w_ine_f dX9_letter_12 (t := 22) rfl (by omega) ?_
        refine w_lo dX9_letter_15 rfl rfl rfl rfl ?_
        refine w_iv dX9_letter_16 rfl rfl (As := []) rfl rfl hJ0.1.1 zs_386 (Nat.le_of_ble_eq_true rfl) ?_
        refine ZV.of (ini := false) rfl (Nat.le_of_ble_eq_true rfl) (by decide +kernel) ?_
        show ZW _ _ _ _ _ _ _ (0, [some (.ref 386)], [], M0)
        refine w_lo dX9_many_0 rfl rfl rfl rfl ?_
        refine w_gf dX9_many_1 rfl hJ0.1.1 zs_386 (zr_386_13 hJ0.1) ?_
        refine w_lo dX9_many_4 rfl rfl rfl rfl ?_
        refine w_gfi dX9_many_5 rfl hJ0.1 zs_386 (Nat.le_of_ble_eq_true rfl) zo_386_12 ?_
        intro x53 f54 h55 h56
        replace hb : zHd _ := hb x53.toInt (ziE f54) h55 h56
        refine w_iai dX9_many_8 hJ0.1 zs_388 (by omega) (by omega) zu_388 ?_
        intro x60 f57 h58 h59
        replace hb : zHd _ := hb x60.toInt (ziEk f57 rfl) h58 h59
        refine w_eni dX9_many_9 rfl rfl ?_
        show ZW _ _ _ _ _ _ _ (19, [some (.ref 386), some (.int a0), some (.int a1), some (.int a2), none, none, none, none, none], [.int x60, .int 0, .int a1], M0)
        refine w_gt dX9_letter_19 (t := 31) rfl ?_
        refine w_ic dX9_letter_31 zi_1 ?_
        refine w_sub dX9_letter_32 (by have := zt_1; omega) ?_
        intro x61 h62
        have := zt_1
        replace hb : zHd _ := hb x61.toInt (by have := zt_1; omega)
        refine w_ss dX9_letter_33 rfl rfl (As := [.int a1, .int 0, .int x61]) rfl rfl (Nat.le_of_ble_eq_true rfl) ?_
        refine ZV.of (ini := false) rfl (Nat.le_of_ble_eq_true rfl) (by decide +kernel) ?_
        show ZW _ _ _ _ _ _ _ (0, [some (.int a1), some (.int 0), some (.int x61)], [], M0)
        refine w_lo dX9_is_0 rfl rfl rfl rfl ?_
        refine w_lo dX9_is_1 rfl rfl rfl rfl ?_
        rcases zcut a1.toInt (0 : Int) with h63 | h63
        · skip
          replace hb : zHd _ := hb.1 h63
          refine w_clt_t dX9_is_2 (t := 14) rfl (by have := zt_0; omega) ?_
          refine w_ic dX9_is_14 zi_0 ?_
          refine w_en dX9_is_15 rfl ?_
          show ZW _ _ _ _ _ _ _ (36, [some (.ref 386), some (.int a0), some (.int a1), some (.int a2), none, none, none, none, none], [.int 0], M0)
          refine w_ieq_t dX9_letter_36 (t := 48) rfl (by have := zt_0; omega) ?_
          refine w_ic dX9_letter_48 zi_m1 ?_
          refine w_en dX9_letter_49 rfl ?_
          exact ⟨_, _, rfl, (zbot _), (by have := zt_m1; omega), hJ0, hb⟩
        · skip
          replace hb : zHd _ := hb.2 h63
          refine w_clt_f dX9_is_2 (t := 14) rfl (by have := zt_0; omega) ?_
          refine w_lo dX9_is_5 rfl rfl rfl rfl ?_
          refine w_lo dX9_is_6 rfl rfl rfl rfl ?_
          rcases zcut x61.toInt a1.toInt with h64 | h64
          · skip
            replace hb : zHd _ := hb.1 h64
            refine w_cgt_t dX9_is_7 (t := 14) rfl (by omega) ?_
            refine w_ic dX9_is_14 zi_0 ?_
            refine w_en dX9_is_15 rfl ?_
            show ZW _ _ _ _ _ _ _ (36, [some (.ref 386), some (.int a0), some (.int a1), some (.int a2), none, none, none, none, none], [.int 0], M0)
            refine w_ieq_t dX9_letter_36 (t := 48) rfl (by have := zt_0; omega) ?_
            refine w_ic dX9_letter_48 zi_m1 ?_
            refine w_en dX9_letter_49 rfl ?_
            exact ⟨_, _, rfl, (zbot _), (by have := zt_m1; omega), hJ0, hb⟩
          · skip
            replace hb : zHd _ := hb.2 h64
            refine w_cgt_f dX9_is_7 (t := 14) rfl (by omega) ?_
            refine w_ic dX9_is_10 zi_1 ?_
            refine w_gt dX9_is_11 (t := 15) rfl ?_
            refine w_en dX9_is_15 rfl ?_
            show ZW _ _ _ _ _ _ _ (36, [some (.ref 386), some (.int a0), some (.int a1), some (.int a2), none, none, none, none, none], [.int 1], M0)
            refine w_ieq_f dX9_letter_36 (t := 48) rfl (by have := zt_1; omega) ?_
            refine w_lo dX9_letter_39 rfl rfl rfl rfl ?_
            refine w_ic dX9_letter_40 zi_0 ?_
            refine w_ic dX9_letter_41 zi_5 ?_
            refine w_ss dX9_letter_42 rfl rfl (As := [.int a2, .int 0, .int 5]) rfl rfl (Nat.le_of_ble_eq_true rfl) ?_
            refine ZV.of (ini := false) rfl (Nat.le_of_ble_eq_true rfl) (by decide +kernel) ?_
            show ZW _ _ _ _ _ _ _ (0, [some (.int a2), some (.int 0), some (.int 5)], [], M0)
            refine w_lo dX9_is_0 rfl rfl rfl rfl ?_
            refine w_lo dX9_is_1 rfl rfl rfl rfl ?_
            rcases zcut a2.toInt (0 : Int) with h65 | h65
            · skip
              replace hb : zHd _ := hb.1 h65
              refine w_clt_t dX9_is_2 (t := 14) rfl (by have := zt_0; omega) ?_
              refine w_ic dX9_is_14 zi_0 ?_
              refine w_en dX9_is_15 rfl ?_
              show ZW _ _ _ _ _ _ _ (45, [some (.ref 386), some (.int a0), some (.int a1), some (.int a2), none, none, none, none, none], [.int 0], M0)
              refine w_ine_f dX9_letter_45 (t := 50) rfl (by have := zt_0; omega) ?_
              refine w_ic dX9_letter_48 zi_m1 ?_
              refine w_en dX9_letter_49 rfl ?_
              exact ⟨_, _, rfl, (zbot _), (by have := zt_m1; omega), hJ0, hb⟩
            · skip
              replace hb : zHd _ := hb.2 h65
              refine w_clt_f dX9_is_2 (t := 14) rfl (by have := zt_0; omega) ?_
              refine w_lo dX9_is_5 rfl rfl rfl rfl ?_
              refine w_lo dX9_is_6 rfl rfl rfl rfl ?_
              rcases zcut (5 : Int) a2.toInt with h66 | h66
              · skip
                replace hb : zHd _ := hb.1 h66
                refine w_cgt_t dX9_is_7 (t := 14) rfl (by have := zt_5; omega) ?_
                refine w_ic dX9_is_14 zi_0 ?_
                refine w_en dX9_is_15 rfl ?_
                show ZW _ _ _ _ _ _ _ (45, [some (.ref 386), some (.int a0), some (.int a1), some (.int a2), none, none, none, none, none], [.int 0], M0)
                refine w_ine_f dX9_letter_45 (t := 50) rfl (by have := zt_0; omega) ?_
                refine w_ic dX9_letter_48 zi_m1 ?_
                refine w_en dX9_letter_49 rfl ?_
                exact ⟨_, _, rfl, (zbot _), (by have := zt_m1; omega), hJ0, hb⟩
              · skip
                replace hb : zHd _ := hb.2 h66
                refine w_cgt_f dX9_is_7 (t := 14) rfl (by have := zt_5; omega) ?_
                refine w_ic dX9_is_10 zi_1 ?_
                refine w_gt dX9_is_11 (t := 15) rfl ?_
                refine w_en dX9_is_15 rfl ?_
                show ZW _ _ _ _ _ _ _ (45, [some (.ref 386), some (.int a0), some (.int a1), some (.int a2), none, none, none, none, none], [.int 1], M0)
                refine w_ine_t dX9_letter_45 (t := 50) rfl (by have := zt_1; omega) ?_
                refine w_lo dX9_letter_50 rfl rfl rfl rfl ?_
                refine w_ine_f dX9_letter_51 (t := 71) rfl (by omega) ?_
                refine w_lo dX9_letter_54 rfl rfl rfl rfl ?_
                refine w_gf dX9_letter_55 rfl hJ0.1.1 zs_386 (zr_386_14 hJ0.1) ?_
                refine w_bi dX9_letter_58 (c := 12) (by decide) ?_
                refine w_lo dX9_letter_60 rfl rfl rfl rfl ?_
                refine w_gf dX9_letter_61 rfl hJ0.1.1 zs_386 f54 ?_
                refine w_mulc dX9_letter_64 zt_12 (by have := zt_12; omega) ?_
                intro x67 h68
                have := zt_12
                replace hb : zHd _ := hb x67.toInt (by have := zt_12; omega)
                refine w_lo dX9_letter_65 rfl rfl rfl rfl ?_
                refine w_add dX9_letter_66 (by omega) ?_
                intro x69 h70
                replace hb : zHd _ := hb x69.toInt (by omega)
                refine w_lal dX9_letter_67 hJ0.1 zs_389 (by omega) (by omega) zu_389 ?_
                intro y74 f71
                replace hb : zHd _ := hb y74.toInt (ziLk f71 rfl)
                refine w_gt dX9_letter_68 (t := 85) rfl ?_
                refine w_lo (ml' := [some (.ref 386), some (.int a0), some (.int a1), some (.int a2), some (.long y74), none, none, none, none]) dX9_letter_85 rfl rfl rfl rfl ?_
                refine w_ic dX9_letter_87 zi_0 ?_
                refine w_lo (ml' := [some (.ref 386), some (.int a0), some (.int a1), some (.int a2), some (.long y74), none, some (.int 0), none, none]) dX9_letter_88 rfl rfl rfl rfl ?_
                refine w_lo dX9_letter_90 rfl rfl rfl rfl ?_
                refine w_lo (ml' := [some (.ref 386), some (.int a0), some (.int a1), some (.int a2), some (.long y74), none, some (.int 0), some (.long y74), none]) dX9_letter_92 rfl rfl rfl rfl ?_
                obtain ⟨m, hI⟩ := hb
                exact (main m) M0 (some (.ref 386)) a0 a1 a2 y74 0 y74 hJ0 (by omega) (by omega) (zlbot _) (zltop _) (zbot _) (ztop _) (zlbot _) (zltop _) hI
set_option maxHeartbeats 4000000 in
theorem v_2061 {s0 : zF} {a0 a1 : Int} : b_2061 s0 a0 a1 (fun v g => g = s0 ∧ v = zxand (zxshr a0 (5 * a1)) 31) := by
  unfold b_2061
  intro x1 ex1
  intro x4 ex4
  intro x6 ex6 fx6 gx6
  exact ⟨rfl, by rw [ex6, ex4, ex1]⟩
set_option maxHeartbeats 4000000 in
theorem v_2059 {s0 : zF} {a0 a1 a2 : Int} (hc : s0 0 3 = 7 ∨ s0 0 3 = 28) : b_2059 s0 a0 a1 a2 (fun v _ => (¬(0 ≤ a2 ∧ a2 < 6 ∧ a0 = 0 ∧ 0 ≤ a1 ∧ a1 < (s0 (s0 0 3).toNat 1)) → ¬(0 ≤ a2 ∧ a2 < 6 ∧ a0 = 1 ∧ 0 ≤ a1 ∧ a1 < (s0 (s0 0 3).toNat 2)) → v = -1) ∧ (0 ≤ a2 ∧ a2 < 6 ∧ a0 = 0 ∧ 0 ≤ a1 ∧ a1 < (s0 (s0 0 3).toNat 1) → v = zxand (zxshr (s0 ((s0 0 3).toNat + 1) a1.toNat) (5 * a2)) 31) ∧ (0 ≤ a2 ∧ a2 < 6 ∧ a0 = 1 ∧ 0 ≤ a1 ∧ a1 < (s0 (s0 0 3).toNat 2) → v = zxand (zxshr (s0 ((s0 0 3).toNat + 7) a1.toNat) (5 * a2)) 31)) := by
  refine ⟨fun n g v38_1 v38_2 v38_3 => n = 0 ∧ g = s0 ∧ v38_1 = a0 ∧ v38_2 = a1 ∧ v38_3 = a2 ∧ 0 ≤ a2 ∧ a2 < 6 ∧ ¬(0 ≤ a2 ∧ a2 < 6 ∧ a0 = 0 ∧ 0 ≤ a1 ∧ a1 < (s0 (s0 0 3).toNat 1)), ?_, ?_⟩
  · skip
    refine ⟨fun h26 => ?_, fun h26 => ?_⟩
    · skip
      refine ⟨fun _ _ => rfl, fun z => ?_, fun z => ?_⟩
      · exfalso
        omega
      · exfalso
        omega
    · skip
      refine ⟨fun h27 => ?_, fun h27 => ?_⟩
      · skip
        refine ⟨fun h28 => ?_, fun h28 => ?_⟩
        · skip
          exact ⟨0, rfl, rfl, rfl, rfl, rfl, by omega, by omega, fun z => by omega⟩
        · skip
          refine ⟨fun h29 => ?_, fun h29 => ?_⟩
          · skip
            exact ⟨0, rfl, rfl, rfl, rfl, rfl, by omega, by omega, fun z => by omega⟩
          · skip
            intro b30 eb30 fb30
            intro x34 ex34 fx34 gx34
            refine ⟨fun h38 => ?_, fun h38 => ?_⟩
            · skip
              intro x42 ex42
              refine ⟨fun v g' => g' = s0 ∧ v = zxand (zxshr x42 (5 * a2)) 31, ?_, ?_⟩
              · skip
                exact v_2061
              · skip
                intro x48 hx481 hx482 g51 rg51 qg51
                have kb : b30 = (s0 0 3).toNat := by omega
                rw [kb] at ex34
                rw [kb] at ex42
                obtain ⟨-, q1⟩ : g51 = s0 ∧ x48 = zxand (zxshr x42 (5 * a2)) 31 := qg51
                rw [ex42] at q1
                exact ⟨fun z => absurd ⟨by omega, by omega, by omega, by omega, by omega⟩ z, fun _ => q1, fun z => by exfalso; omega⟩
            · skip
              have kb : b30 = (s0 0 3).toNat := by omega
              rw [kb] at ex34
              exact ⟨0, rfl, rfl, rfl, rfl, rfl, by omega, by omega, fun z => by omega⟩
      · skip
        refine ⟨fun _ _ => rfl, fun z => ?_, fun z => ?_⟩
        · exfalso
          omega
        · exfalso
          omega
  · intro n g v38_1 v38_2 v38_3 rg qv38_30 qv38_31 hI
    obtain ⟨hn, hg, h1, h2, h3, h4, h5, h6⟩ := hI
    subst hg
    subst h1
    subst h2
    subst h3
    refine ⟨fun h1 => ?_, fun h1 => ?_⟩
    · skip
      refine ⟨fun _ _ => rfl, fun z => ?_, fun z => ?_⟩
      · exfalso
        omega
      · exfalso
        omega
    · skip
      refine ⟨fun h2 => ?_, fun h2 => ?_⟩
      · skip
        refine ⟨fun _ _ => rfl, fun z => ?_, fun z => ?_⟩
        · exfalso
          omega
        · exfalso
          omega
      · skip
        intro b3 eb3 fb3
        intro x7 ex7 fx7 gx7
        refine ⟨fun h11 => ?_, fun h11 => ?_⟩
        · skip
          intro x15 ex15
          refine ⟨fun v g' => g' = g ∧ v = zxand (zxshr x15 (5 * v38_3)) 31, ?_, ?_⟩
          · skip
            exact v_2061
          · skip
            intro x21 hx211 hx212 g24 rg24 qg24
            have kb : b3 = (g 0 3).toNat := by omega
            rw [kb] at ex7
            rw [kb] at ex15
            obtain ⟨-, q1⟩ : g24 = g ∧ x21 = zxand (zxshr x15 (5 * v38_3)) 31 := qg24
            rw [ex15] at q1
            exact ⟨fun _ z => absurd ⟨by omega, by omega, by omega, by omega, by omega⟩ z, fun z => by exfalso; omega, fun _ => q1⟩
        · skip
          have kb : b3 = (g 0 3).toNat := by omega
          rw [kb] at ex7
          refine ⟨fun _ _ => rfl, fun z => ?_, fun z => ?_⟩
          · exfalso
            omega
          · exfalso
            omega
set_option maxHeartbeats 4000000 in
theorem v_2351 {s0 : zF} {a0 a1 a2 : Int} : b_2351 s0 a0 a1 a2 (fun v _ => (¬(0 ≤ a2 ∧ a2 < 6 ∧ a0 = 0 ∧ 0 ≤ a1 ∧ a1 < (s0 388 (s0 386 12).toNat)) → ¬(0 ≤ a2 ∧ a2 < 6 ∧ a0 = 1 ∧ 0 ≤ a1 ∧ a1 < (s0 396 (s0 386 12).toNat)) → v = -1) ∧ (0 ≤ a2 ∧ a2 < 6 ∧ a0 = 0 ∧ 0 ≤ a1 ∧ a1 < (s0 388 (s0 386 12).toNat) → ∀ (T : Nat → Int) (a n : Nat), LTS T a n → (s0 389 (12 * (s0 386 12).toNat + a1.toNat)) = pk8 T a n → v = LTV T a n a2.toNat) ∧ (0 ≤ a2 ∧ a2 < 6 ∧ a0 = 1 ∧ 0 ≤ a1 ∧ a1 < (s0 396 (s0 386 12).toNat) → ∀ (T : Nat → Int) (a n : Nat), LTS T a n → (s0 397 (6 * (s0 386 12).toNat + a1.toNat)) = pk8 T a n → v = LTV T a n a2.toNat)) := by
  refine ⟨fun n g v94_3 y94_4 v94_6 y94_7 => n = y94_7.toNat ∧ v94_3 = a2 ∧ ((0 ≤ a2 ∧ a2 < 6 ∧ a0 = 0 ∧ 0 ≤ a1 ∧ a1 < (s0 388 (s0 386 12).toNat)) ∧ y94_4 = (s0 389 (12 * (s0 386 12).toNat + a1.toNat)) ∨ (0 ≤ a2 ∧ a2 < 6 ∧ a0 = 1 ∧ 0 ≤ a1 ∧ a1 < (s0 396 (s0 386 12).toNat)) ∧ y94_4 = (s0 397 (6 * (s0 386 12).toNat + a1.toNat))) ∧ ∀ (T : Nat → Int) (a n : Nat), LTS T a n → y94_4 = pk8 T a n → 0 ≤ v94_6 ∧ v94_6 ≤ (n : Int) ∧ y94_7 = pk8 T a (n - v94_6.toNat), ?_, ?_⟩
  · skip
    refine ⟨fun h28 => ?_, fun h28 => ?_⟩
    · skip
      refine ⟨fun _ _ => rfl, fun z => ?_, fun z => ?_⟩
      · exfalso
        omega
      · exfalso
        omega
    · skip
      refine ⟨fun h29 => ?_, fun h29 => ?_⟩
      · skip
        refine ⟨fun _ _ => rfl, fun z => ?_, fun z => ?_⟩
        · exfalso
          omega
        · exfalso
          omega
      · skip
        refine ⟨fun h30 => ?_, fun h30 => ?_⟩
        · skip
          intro x31 ex31 fx31 gx31
          intro x38 ex38 fx38 gx38
          intro x39 ex39
          refine ⟨fun h41 => ?_, fun h41 => ?_⟩
          · skip
            rw [ex31] at ex38
            refine ⟨fun _ _ => rfl, fun z => ?_, fun z => ?_⟩
            · exfalso
              omega
            · exfalso
              omega
          · skip
            refine ⟨fun h42 => ?_, fun h42 => ?_⟩
            · skip
              rw [ex31] at ex38
              refine ⟨fun _ _ => rfl, fun z => ?_, fun z => ?_⟩
              · exfalso
                omega
              · exfalso
                omega
            · skip
              refine ⟨fun h43 => ?_, fun h43 => ?_⟩
              · skip
                rw [ex31] at ex38
                refine ⟨fun _ _ => rfl, fun z => ?_, fun z => ?_⟩
                · exfalso
                  omega
                · exfalso
                  omega
              · skip
                refine ⟨fun h44 => ?_, fun h44 => ?_⟩
                · skip
                  rw [ex31] at ex38
                  refine ⟨fun _ _ => rfl, fun z => ?_, fun z => ?_⟩
                  · exfalso
                    omega
                  · exfalso
                    omega
                · skip
                  intro x45 ex45
                  intro x47 ex47
                  intro y52 ey52
                  rw [ex31] at ex38
                  have hi : x47.toNat = 6 * (s0 386 12).toNat + a1.toNat := by omega
                  rw [hi] at ey52
                  exact ⟨_, rfl, rfl, Or.inr ⟨⟨by omega, by omega, by omega, by omega, by omega⟩, ey52⟩, fun T a n hl h => ⟨by decide, by omega, h⟩⟩
        · skip
          intro x53 ex53 fx53 gx53
          intro x60 ex60 fx60 gx60
          intro x61 ex61
          refine ⟨fun h63 => ?_, fun h63 => ?_⟩
          · skip
            rw [ex53] at ex60
            refine ⟨fun _ _ => rfl, fun z => ?_, fun z => ?_⟩
            · exfalso
              omega
            · exfalso
              omega
          · skip
            refine ⟨fun h64 => ?_, fun h64 => ?_⟩
            · skip
              rw [ex53] at ex60
              refine ⟨fun _ _ => rfl, fun z => ?_, fun z => ?_⟩
              · exfalso
                omega
              · exfalso
                omega
            · skip
              refine ⟨fun h65 => ?_, fun h65 => ?_⟩
              · skip
                rw [ex53] at ex60
                refine ⟨fun _ _ => rfl, fun z => ?_, fun z => ?_⟩
                · exfalso
                  omega
                · exfalso
                  omega
              · skip
                refine ⟨fun h66 => ?_, fun h66 => ?_⟩
                · skip
                  rw [ex53] at ex60
                  refine ⟨fun _ _ => rfl, fun z => ?_, fun z => ?_⟩
                  · exfalso
                    omega
                  · exfalso
                    omega
                · skip
                  intro x67 ex67
                  intro x69 ex69
                  intro y74 ey74
                  rw [ex53] at ex60
                  have hi : x69.toNat = 12 * (s0 386 12).toNat + a1.toNat := by omega
                  rw [hi] at ey74
                  exact ⟨_, rfl, rfl, Or.inl ⟨⟨by omega, by omega, by omega, by omega, by omega⟩, ey74⟩, fun T a n hl h => ⟨by decide, by omega, h⟩⟩
  · intro n g v94_3 y94_4 v94_6 y94_7 rg qv94_30 qv94_31 hI
    obtain ⟨hn, h2, hv, hk⟩ := hI
    intro x1 ex1
    refine ⟨fun h3 => ?_, fun h3 => ?_⟩
    · skip
      intro x4 ex4
      intro y6 ey6 fy6
      have hd : y6 < y94_7 := by omega
      refine ⟨_, by omega, rfl, h2, hv, fun T a n hl h => ?_⟩
      obtain ⟨k1, k2, k3⟩ := hk T a n hl h
      obtain ⟨l1, l6, ll⟩ := hl
      have ex : x4 = v94_6 + 1 := (ex4).trans (zxadd_e (by omega) (by omega) (by omega))
      have hlt : v94_6.toNat < n := by
        by_cases z : v94_6.toNat < n
        · exact z
        · exfalso
          rw [show n - v94_6.toNat = 0 by omega] at k3
          have : pk8 T a 0 = 0 := rfl
          omega
      refine ⟨by omega, by omega, ?_⟩
      rw [ey6, k3, show n - v94_6.toNat = (n - (x4).toNat) + 1 by omega]
      exact pk8_div (ll _ (by omega) (by omega))
    · skip
      refine ⟨fun h9 => ?_, fun h9 => ?_⟩
      · skip
        intro x10 ex10
        intro x12 ex12
        intro x15 ex15
        intro y16 ey16
        intro y18 ey18 fy18 gy18
        intro x22 ex22
        intro x24 ex24
        intro x26 ex26
        have key : ∀ (T : Nat → Int) (a n : Nat), LTS T a n → y94_4 = pk8 T a n → x26 = LTV T a n a2.toNat := by
          intro T a n hl h
          obtain ⟨k1, k2, k3⟩ := hk T a n hl h
          have hl0 := hl
          obtain ⟨l1, l6, ll⟩ := hl0
          have hc : v94_6.toNat = n := by
            by_cases z : v94_6.toNat = n
            · exact z
            · exfalso
              have := (pk8_lt (T := T) (a := a) (n - v94_6.toNat) (fun q q1 q2 => ll q q1 (by omega))).2.1 (by omega)
              omega
          have e1 : x15 = 8 * ((n - 1 - a2.toNat : Nat) : Int) := by
            rw [ex15, zxmul_e (by omega) (by omega) (by omega)]
            omega
          have e2 := let8 hl (k := a2.toNat) (by omega)
          rw [← e1, ← h, ← ey16, ← ey18] at e2
          have lk := lts_k hl (k := a2.toNat) (by omega)
          unfold LTV
          rw [if_pos (by omega)]
          omega
        refine ⟨fun z1 z2 => ?_, fun z => ?_, fun z => ?_⟩
        · exfalso
          rcases hv with ⟨w, -⟩ | ⟨w, -⟩
          · exact z1 w
          · exact z2 w
        · rcases hv with ⟨w, e⟩ | ⟨w, -⟩
          · intro T a n hl h
            exact key T a n hl (e.trans h)
          · exfalso
            omega
        · rcases hv with ⟨w, -⟩ | ⟨w, e⟩
          · exfalso
            omega
          · intro T a n hl h
            exact key T a n hl (e.trans h)
      · skip
        have key : ∀ (T : Nat → Int) (a n : Nat), LTS T a n → y94_4 = pk8 T a n → 0 = LTV T a n a2.toNat := by
          intro T a n hl h
          obtain ⟨k1, k2, k3⟩ := hk T a n hl h
          have hl0 := hl
          obtain ⟨l1, l6, ll⟩ := hl0
          have hc : v94_6.toNat = n := by
            by_cases z : v94_6.toNat = n
            · exact z
            · exfalso
              have := (pk8_lt (T := T) (a := a) (n - v94_6.toNat) (fun q q1 q2 => ll q q1 (by omega))).2.1 (by omega)
              omega
          unfold LTV
          rw [if_neg (by omega)]
        refine ⟨fun z1 z2 => ?_, fun z => ?_, fun z => ?_⟩
        · exfalso
          rcases hv with ⟨w, -⟩ | ⟨w, -⟩
          · exact z1 w
          · exact z2 w
        · rcases hv with ⟨w, e⟩ | ⟨w, -⟩
          · intro T a n hl h
            exact key T a n hl (e.trans h)
          · exfalso
            omega
        · rcases hv with ⟨w, -⟩ | ⟨w, e⟩
          · exfalso
            omega
          · intro T a n hl h
            exact key T a n hl (e.trans h)
theorem letter_eq {s0 : zF} {a0 a1 a2 v w : Int} (h : XI s0) (p : (¬(0 ≤ a2 ∧ a2 < 6 ∧ a0 = 0 ∧ 0 ≤ a1 ∧ a1 < (s0 (s0 0 3).toNat 1)) → ¬(0 ≤ a2 ∧ a2 < 6 ∧ a0 = 1 ∧ 0 ≤ a1 ∧ a1 < (s0 (s0 0 3).toNat 2)) → v = -1) ∧ (0 ≤ a2 ∧ a2 < 6 ∧ a0 = 0 ∧ 0 ≤ a1 ∧ a1 < (s0 (s0 0 3).toNat 1) → v = zxand (zxshr (s0 ((s0 0 3).toNat + 1) a1.toNat) (5 * a2)) 31) ∧ (0 ≤ a2 ∧ a2 < 6 ∧ a0 = 1 ∧ 0 ≤ a1 ∧ a1 < (s0 (s0 0 3).toNat 2) → v = zxand (zxshr (s0 ((s0 0 3).toNat + 7) a1.toNat) (5 * a2)) 31)) (q : (¬(0 ≤ a2 ∧ a2 < 6 ∧ a0 = 0 ∧ 0 ≤ a1 ∧ a1 < (s0 388 (s0 386 12).toNat)) → ¬(0 ≤ a2 ∧ a2 < 6 ∧ a0 = 1 ∧ 0 ≤ a1 ∧ a1 < (s0 396 (s0 386 12).toNat)) → w = -1) ∧ (0 ≤ a2 ∧ a2 < 6 ∧ a0 = 0 ∧ 0 ≤ a1 ∧ a1 < (s0 388 (s0 386 12).toNat) → ∀ (T : Nat → Int) (a n : Nat), LTS T a n → (s0 389 (12 * (s0 386 12).toNat + a1.toNat)) = pk8 T a n → w = LTV T a n a2.toNat) ∧ (0 ≤ a2 ∧ a2 < 6 ∧ a0 = 1 ∧ 0 ≤ a1 ∧ a1 < (s0 396 (s0 386 12).toNat) → ∀ (T : Nat → Int) (a n : Nat), LTS T a n → (s0 397 (6 * (s0 386 12).toNat + a1.toNat)) = pk8 T a n → w = LTV T a n a2.toNat)) : v = w := by
  obtain ⟨-, -, -, hb, hn1, hd, hn2⟩ := h
  rw [← hb, ← hd] at q
  obtain ⟨p1, p2, p3⟩ := p
  obtain ⟨q1, q2, q3⟩ := q
  by_cases z0 : 0 ≤ a2 ∧ a2 < 6 ∧ a0 = 0 ∧ 0 ≤ a1 ∧ a1 < (s0 (s0 0 3).toNat 1)
  · obtain ⟨T, a, n, l, x1, x2⟩ := hn1 a1.toNat (by omega)
    have e1 := p2 z0
    have e2 := q2 z0 T a n l x2
    have e3 := let5 l (k := a2.toNat) (by omega)
    rw [show ((a2.toNat : Nat) : Int) = a2 by omega, ← x1] at e3
    omega
  · by_cases z1 : 0 ≤ a2 ∧ a2 < 6 ∧ a0 = 1 ∧ 0 ≤ a1 ∧ a1 < (s0 (s0 0 3).toNat 2)
    · obtain ⟨T, a, n, l, x1, x2⟩ := hn2 a1.toNat (by omega)
      have e1 := p3 z1
      have e2 := q3 z1 T a n l x2
      have e3 := let5 l (k := a2.toNat) (by omega)
      rw [show ((a2.toNat : Nat) : Int) = a2 by omega, ← x1] at e3
      omega
    · rw [p1 z0 z1, q1 z0 z1]
