/-! feed, byte by byte (wip/safe/vcp.py) -/
set_option maxRecDepth 100000 in
def b_2051 (s0 : zF) (a0 : Int) (Q : zF → Prop) : Prop :=
  ∃ (I3 : Nat → zF → Int → Int → Prop),
    (∃ m : Nat, I3 m s0 a0 24) ∧
    (∀ (n : Nat) (g : zF) (v3_1 : Int) (v3_2 : Int), zFr [(0, 1, 1), (1, 2, 1000)] s0 g → (-8) ≤ v3_2 → v3_2 ≤ 24 → I3 n g v3_1 v3_2 → (v3_2 < 0 → Q g) ∧ (0 ≤ v3_2 → ∀ x2 : Int, x2 = g (0) 1 → 0 ≤ x2 → x2 ≤ 1600 → (x2 < 1600 → ∀ x8 : Int, x8 = zxshr v3_1 v3_2 → ∀ x10 : Int, x10 = zxand x8 255 → 0 ≤ x10 → x10 ≤ 255 → ∀ g17 : zF, g17 = zup g (1) x2.toNat x10 → ∀ x19 : Int, x19 = x2 + 1 → ∀ g25 : zF, g25 = zup g17 (0) 1 x19 → ∀ x26 : Int, x26 = v3_2 + (-8) → ∃ m : Nat, m < n ∧ I3 m g25 v3_1 x26) ∧ (1600 ≤ x2 → Q g)))
set_option maxRecDepth 100000 in
def b_2049 (s0 : zF) (a0 : Int) (a1 : Int) (a2 : Int) (a3 : Int) (a4 : Int) (Q : Int → zF → Prop) : Prop :=
  ∀ x1 : Int, x1 = s0 (0) 1 → 0 ≤ x1 → x1 ≤ 1600 → ∀ x5 : Int, x5 = x1 + 20 → (1600 < x5 → ∀ g11 : zF, zFr [(385, 386, 1000)] s0 g11 → Q (-1) g11) ∧ (x5 ≤ 1600 → ∃ P15 : zF → Prop, b_2051 s0 a0 P15 ∧ ∀ g18 : zF, zFr [(0, 1, 1), (1, 2, 1000)] s0 g18 → P15 g18 → ∃ P22 : zF → Prop, b_2051 g18 a1 P22 ∧ ∀ g25 : zF, zFr [(0, 1, 1), (1, 2, 1000)] g18 g25 → P22 g25 → ∃ P29 : zF → Prop, b_2051 g25 a2 P29 ∧ ∀ g32 : zF, zFr [(0, 1, 1), (1, 2, 1000)] g25 g32 → P29 g32 → ∃ P36 : zF → Prop, b_2051 g32 a3 P36 ∧ ∀ g39 : zF, zFr [(0, 1, 1), (1, 2, 1000)] g32 g39 → P36 g39 → ∃ P43 : zF → Prop, b_2051 g39 a4 P43 ∧ ∀ g46 : zF, zFr [(0, 1, 1), (1, 2, 1000)] g39 g46 → P43 g46 → ∀ x48 : Int, x48 = g46 (0) 1 → 0 ≤ x48 → x48 ≤ 1600 → Q x48 g46)
set_option maxRecDepth 100000 in
def b_2307 (s0 : zF) (a0 : Int) (Q : zF → Prop) : Prop :=
  ∃ (I3 : Nat → zF → Int → Int → Prop),
    (∃ m : Nat, I3 m s0 a0 24) ∧
    (∀ (n : Nat) (g : zF) (v3_1 : Int) (v3_2 : Int), zFr [(386, 387, 1), (387, 388, 1000)] s0 g → (-8) ≤ v3_2 → v3_2 ≤ 24 → I3 n g v3_1 v3_2 → (v3_2 < 0 → Q g) ∧ (0 ≤ v3_2 → ∀ x2 : Int, x2 = g (386) 1 → 0 ≤ x2 → x2 ≤ 1600 → ∀ x7 : Int, x7 = zxshr v3_1 v3_2 → ∀ x9 : Int, x9 = zxand x7 255 → 0 ≤ x9 → x9 ≤ 255 → ∀ g16 : zF, g16 = zup g (387) x2.toNat x9 → ∀ x18 : Int, x18 = x2 + 1 → (x18 ≤ 1600) ∧ ∀ g25 : zF, g25 = zup g16 (386) 1 x18 → ∀ x26 : Int, x26 = v3_2 + (-8) → ∃ m : Nat, m < n ∧ I3 m g25 v3_1 x26))
set_option maxRecDepth 100000 in
def b_2305 (s0 : zF) (a0 : Int) (a1 : Int) (a2 : Int) (a3 : Int) (a4 : Int) (Q : Int → zF → Prop) : Prop :=
  ∀ x1 : Int, x1 = s0 (386) 1 → 0 ≤ x1 → x1 ≤ 1600 → ∀ x5 : Int, x5 = x1 + 20 → (1600 < x5 → ∀ x11 : Int, (-1) ≤ x11 → x11 ≤ (-1) → ∀ g14 : zF, zFr [(415, 416, 1000)] s0 g14 → Q x11 g14) ∧ (x5 ≤ 1600 → ∃ P18 : zF → Prop, b_2307 s0 a0 P18 ∧ ∀ g21 : zF, zFr [(386, 387, 1), (387, 388, 1000)] s0 g21 → P18 g21 → ∃ P25 : zF → Prop, b_2307 g21 a1 P25 ∧ ∀ g28 : zF, zFr [(386, 387, 1), (387, 388, 1000)] g21 g28 → P25 g28 → ∃ P32 : zF → Prop, b_2307 g28 a2 P32 ∧ ∀ g35 : zF, zFr [(386, 387, 1), (387, 388, 1000)] g28 g35 → P32 g35 → ∃ P39 : zF → Prop, b_2307 g35 a3 P39 ∧ ∀ g42 : zF, zFr [(386, 387, 1), (387, 388, 1000)] g35 g42 → P39 g42 → ∃ P46 : zF → Prop, b_2307 g42 a4 P46 ∧ ∀ g49 : zF, zFr [(386, 387, 1), (387, 388, 1000)] g42 g49 → P46 g49 → ∀ x51 : Int, x51 = g49 (386) 1 → 0 ≤ x51 → x51 ≤ 1600 → Q x51 g49)
set_option maxRecDepth 100000 in
theorem u_2051 {X : List Int32} {d N : Nat} {M0 : zM} (a0 : Int32) (hN : N ≤ 600) (hB0 : zB N M0) {Q : zF → Prop} (hb : b_2051 (zi M0) a0.toInt Q) : ZV X (d + 1) 2051 [.ref 0, .int a0] M0 (zRV N [(0, 1, 1), (1, 2, 1000)] M0 (fun M' => Q (zi M'))) := by
  have hJ0 : zJ N [(0, 1, 1), (1, 2, 1000)] M0 M0 := zJ_refl hB0
  refine ZV.of (ini := false) rfl (Nat.le_of_ble_eq_true rfl) (by decide +kernel) ?_
  obtain ⟨I3, hbE, hb3⟩ := hb
  replace hbE : zHd _ := hbE
  replace hb3 : zHd _ := hb3
  have main : ∀ n : Nat,
      (∀ (M : zM) (v3_1 : Int32) (v3_2 : Int32), zJ N [(0, 1, 1), (1, 2, 1000)] M0 M → ((-2147483648 : Int) ≤ v3_1.toInt) → (v3_1.toInt ≤ 2147483647) → ((-8 : Int) ≤ v3_2.toInt) → (v3_2.toInt ≤ 24) → I3 n (zi M) v3_1.toInt v3_2.toInt → ZW X (d + 0) 8 false none cX8_putOnTape (zRV N [(0, 1, 1), (1, 2, 1000)] M0 (fun M' => Q (zi M'))) (3, [some (.ref 0), some (.int v3_1), some (.int v3_2)], [], M)) := by
    intro n
    induction n using Nat.strongRecOn with
    | _ n ih =>
      · intro M v3_1 v3_2 hJ v3_10 v3_11 v3_20 v3_21 hI
        have hb : zHd _ := hb3 n (zi M) v3_1.toInt v3_2.toInt (zi_fr hJ.2) v3_20 v3_21 hI
        refine w_lo dX8_putOnTape_3 rfl rfl rfl rfl ?_
        rcases zcut v3_2.toInt (0 : Int) with h1 | h1
        · skip
          replace hb : zHd _ := hb.1 h1
          refine w_ilt_t dX8_putOnTape_4 (t := 49) rfl (by omega) ?_
          refine w_en dX8_putOnTape_49 rfl ?_
          exact ⟨_, rfl, hJ, hb⟩
        · skip
          replace hb : zHd _ := hb.2 h1
          refine w_ilt_f dX8_putOnTape_4 (t := 49) rfl (by omega) ?_
          refine w_lo dX8_putOnTape_7 rfl rfl rfl rfl ?_
          refine w_gfi dX8_putOnTape_8 rfl hJ.1 zs_0 (Nat.le_of_ble_eq_true rfl) zo_0_1 ?_
          intro x2 f3 h4 h5
          replace hb : zHd _ := hb x2.toInt (ziE f3) h4 h5
          refine w_si dX8_putOnTape_11 (c := 1600) (by decide) ?_
          rcases zcut x2.toInt (1600 : Int) with h6 | h6
          · skip
            replace hb : zHd _ := hb.1 h6
            refine w_cge_f dX8_putOnTape_14 (t := 49) rfl (by have := zt_1600; omega) ?_
            refine w_lo dX8_putOnTape_17 rfl rfl rfl rfl ?_
            refine w_gf dX8_putOnTape_18 rfl hJ.1.1 zs_0 (zr_0_0 hJ.1) ?_
            refine w_lo dX8_putOnTape_21 rfl rfl rfl rfl ?_
            refine w_gf dX8_putOnTape_22 rfl hJ.1.1 zs_0 f3 ?_
            refine w_lo dX8_putOnTape_25 rfl rfl rfl rfl ?_
            refine w_lo dX8_putOnTape_26 rfl rfl rfl rfl ?_
            refine w_exE dX8_putOnTape_27 rfl rfl ?_
            intro x8 h7
            replace hb : zHd _ := hb x8.toInt (by rw [h7, zxshr_i])
            refine w_si dX8_putOnTape_28 (c := 255) (by decide) ?_
            refine w_andE dX8_putOnTape_31 (m := 255) zt_255 (by omega) ?_
            intro x10 h11 h12 h9
            replace hb : zHd _ := hb x10.toInt (by rw [h9, zxand_i, zt_255]) h11 h12
            refine w_isi dX8_putOnTape_32 hJ zs_1 (by omega) (by omega) zu_1 (by omega) (by omega) (zIR_s (zIR_a (by omega) (by omega))) ?_
            intro M13 hJ14 f15 hn16
            replace hb : zHd _ := hb (zi M13) (zi_zup hn16 f15 rfl rfl)
            refine w_lo dX8_putOnTape_33 rfl rfl rfl rfl ?_
            refine w_pu dX8_putOnTape_34 rfl rfl ?_
            have f18 := (hn16 (0) 1 (Or.inl (by omega))).trans (f3)
            refine w_gf dX8_putOnTape_35 rfl hJ14.1.1 zs_0 f18 ?_
            refine w_ic dX8_putOnTape_38 zi_1 ?_
            refine w_add dX8_putOnTape_39 (by have := zt_1; omega) ?_
            intro x19 h20
            have := zt_1
            replace hb : zHd _ := hb x19.toInt (by have := zt_1; omega)
            refine w_pfi dX8_putOnTape_40 rfl hJ14 zs_0 (Nat.le_of_ble_eq_true rfl) zo_0_1 (by omega) (by omega) (zIR_k (by omega) (by omega)) rfl rfl rfl ?_
            intro M21 hJ22 f23 hn24
            replace hb : zHd _ := hb (zi M21) (zi_zup hn24 f23 rfl rfl)
            refine w_inc (kk := 2) dX8_putOnTape_43 rfl (m := -8) (by decide) (by omega) ?_
            intro x26 h27
            refine ⟨_, rfl, ?_⟩
            replace hb : zHd _ := hb x26.toInt h27
            show ZW _ _ _ _ _ _ _ (46, [some (.ref 0), some (.int v3_1), some (.int x26)], [], M21)
            refine w_gt dX8_putOnTape_46 (t := 3) rfl ?_
            obtain ⟨m, hm, hI⟩ := hb
            exact (ih m hm) M21 v3_1 x26 hJ22 (zbot _) (ztop _) (by omega) (by omega) hI
          · skip
            replace hb : zHd _ := hb.2 h6
            refine w_cge_t dX8_putOnTape_14 (t := 49) rfl (by have := zt_1600; omega) ?_
            refine w_en dX8_putOnTape_49 rfl ?_
            exact ⟨_, rfl, hJ, hb⟩
  have hb : zHd _ := hbE
  show ZW _ _ _ _ _ _ _ (0, [some (.ref 0), some (.int a0), none], [], M0)
  refine w_bi dX8_putOnTape_0 (c := 24) (by decide) ?_
  refine w_lo (ml' := [some (.ref 0), some (.int a0), some (.int 24)]) dX8_putOnTape_2 rfl rfl rfl rfl ?_
  obtain ⟨m, hI⟩ := hb
  exact (main m) M0 a0 24 hJ0 (zbot _) (ztop _) (by have := zt_24; omega) (by have := zt_24; omega) hI
set_option maxRecDepth 100000 in
theorem u_2049 {X : List Int32} {d N : Nat} {M0 : zM} (a0 : Int32) (a1 : Int32) (a2 : Int32) (a3 : Int32) (a4 : Int32) (hN : N ≤ 600) (hB0 : zB N M0) {Q : Int → zF → Prop} (hb : b_2049 (zi M0) a0.toInt a1.toInt a2.toInt a3.toInt a4.toInt Q) : ZV X (d + 2) 2049 [.ref 0, .int a0, .int a1, .int a2, .int a3, .int a4] M0 (zRI N [(0, 1, 1), (1, 2, 1000), (385, 386, 1000)] M0 (-1) (1600) (fun v M' => Q v.toInt (zi M'))) := by
  have hJ0 : zJ N [(0, 1, 1), (1, 2, 1000), (385, 386, 1000)] M0 M0 := zJ_refl hB0
  refine ZV.of (ini := false) rfl (Nat.le_of_ble_eq_true rfl) (by decide +kernel) ?_
  unfold b_2049 at hb
  replace hb : zHd _ := hb
  show ZW _ _ _ _ _ _ _ (0, [some (.ref 0), some (.int a0), some (.int a1), some (.int a2), some (.int a3), some (.int a4)], [], M0)
  refine w_lo dX8_feed_0 rfl rfl rfl rfl ?_
  refine w_gfi dX8_feed_1 rfl hJ0.1 zs_0 (Nat.le_of_ble_eq_true rfl) zo_0_1 ?_
  intro x1 f2 h3 h4
  replace hb : zHd _ := hb x1.toInt (ziE f2) h3 h4
  refine w_bi dX8_feed_4 (c := 20) (by decide) ?_
  refine w_add dX8_feed_6 (by have := zt_20; omega) ?_
  intro x5 h6
  have := zt_20
  replace hb : zHd _ := hb x5.toInt (by have := zt_20; omega)
  refine w_si dX8_feed_7 (c := 1600) (by decide) ?_
  rcases zcut (1600 : Int) x5.toInt with h7 | h7
  · skip
    replace hb : zHd _ := hb.1 h7
    refine w_cle_f dX8_feed_10 (t := 20) rfl (by have := zt_1600; omega) ?_
    refine w_lo dX8_feed_13 rfl rfl rfl rfl ?_
    refine w_ic dX8_feed_14 zi_0 ?_
    refine w_iv dX8_feed_15 rfl rfl (As := [.int 0]) rfl rfl hJ0.1.1 zs_0 (Nat.le_of_ble_eq_true rfl) ?_
    refine ZV.imp (k_2050 0 (by have := zt_0; omega) (by have := zt_0; omega) hN hJ0.1) ?_
    rintro _ ⟨M8, rfl, hJ9, hq10⟩
    replace hb : zHd _ := hb  (zi M8) (zi_fr hJ9.2)
    have hJ12 := zJ_trans hJ0 hJ9 (zSub_cons (fun _ _ h h' hk => zIR_s (zIR_s (zIR_a (by omega) (by omega)))) zSub_nil)
    show ZW _ _ _ _ _ _ _ (18, [some (.ref 0), some (.int a0), some (.int a1), some (.int a2), some (.int a3), some (.int a4)], [], M8)
    refine w_ic dX8_feed_18 zi_m1 ?_
    refine w_en dX8_feed_19 rfl ?_
    exact ⟨_, _, rfl, (by have := zt_m1; omega), (by have := zt_m1; omega), hJ12, hb⟩
  · skip
    replace hb : zHd _ := hb.2 h7
    refine w_cle_t dX8_feed_10 (t := 20) rfl (by have := zt_1600; omega) ?_
    refine w_lo dX8_feed_20 rfl rfl rfl rfl ?_
    refine w_lo dX8_feed_21 rfl rfl rfl rfl ?_
    refine w_iv dX8_feed_22 rfl rfl (As := [.int a0]) rfl rfl hJ0.1.1 zs_0 (Nat.le_of_ble_eq_true rfl) ?_
    obtain ⟨P15, hp16, hb⟩ := hb
    replace hb : zHd _ := hb
    refine ZV.imp (u_2051 a0 hN hJ0.1 hp16) ?_
    rintro _ ⟨M13, rfl, hJ14, hq17⟩
    replace hb : zHd _ := hb  (zi M13) (zi_fr hJ14.2) hq17
    have hJ19 := zJ_trans hJ0 hJ14 (zSub_cons (fun _ _ h h' hk => zIR_e (by omega) (by omega) hk) (zSub_cons (fun _ _ h h' hk => zIR_s (zIR_a (by omega) (by omega))) zSub_nil))
    show ZW _ _ _ _ _ _ _ (25, [some (.ref 0), some (.int a0), some (.int a1), some (.int a2), some (.int a3), some (.int a4)], [], M13)
    refine w_lo dX8_feed_25 rfl rfl rfl rfl ?_
    refine w_lo dX8_feed_26 rfl rfl rfl rfl ?_
    refine w_iv dX8_feed_27 rfl rfl (As := [.int a1]) rfl rfl hJ19.1.1 zs_0 (Nat.le_of_ble_eq_true rfl) ?_
    obtain ⟨P22, hp23, hb⟩ := hb
    replace hb : zHd _ := hb
    refine ZV.imp (u_2051 a1 hN hJ19.1 hp23) ?_
    rintro _ ⟨M20, rfl, hJ21, hq24⟩
    replace hb : zHd _ := hb  (zi M20) (zi_fr hJ21.2) hq24
    have hJ26 := zJ_trans hJ19 hJ21 (zSub_cons (fun _ _ h h' hk => zIR_e (by omega) (by omega) hk) (zSub_cons (fun _ _ h h' hk => zIR_s (zIR_a (by omega) (by omega))) zSub_nil))
    show ZW _ _ _ _ _ _ _ (30, [some (.ref 0), some (.int a0), some (.int a1), some (.int a2), some (.int a3), some (.int a4)], [], M20)
    refine w_lo dX8_feed_30 rfl rfl rfl rfl ?_
    refine w_lo dX8_feed_31 rfl rfl rfl rfl ?_
    refine w_iv dX8_feed_32 rfl rfl (As := [.int a2]) rfl rfl hJ26.1.1 zs_0 (Nat.le_of_ble_eq_true rfl) ?_
    obtain ⟨P29, hp30, hb⟩ := hb
    replace hb : zHd _ := hb
    refine ZV.imp (u_2051 a2 hN hJ26.1 hp30) ?_
    rintro _ ⟨M27, rfl, hJ28, hq31⟩
    replace hb : zHd _ := hb  (zi M27) (zi_fr hJ28.2) hq31
    have hJ33 := zJ_trans hJ26 hJ28 (zSub_cons (fun _ _ h h' hk => zIR_e (by omega) (by omega) hk) (zSub_cons (fun _ _ h h' hk => zIR_s (zIR_a (by omega) (by omega))) zSub_nil))
    show ZW _ _ _ _ _ _ _ (35, [some (.ref 0), some (.int a0), some (.int a1), some (.int a2), some (.int a3), some (.int a4)], [], M27)
    refine w_lo dX8_feed_35 rfl rfl rfl rfl ?_
    refine w_lo dX8_feed_36 rfl rfl rfl rfl ?_
    refine w_iv dX8_feed_38 rfl rfl (As := [.int a3]) rfl rfl hJ33.1.1 zs_0 (Nat.le_of_ble_eq_true rfl) ?_
    obtain ⟨P36, hp37, hb⟩ := hb
    replace hb : zHd _ := hb
    refine ZV.imp (u_2051 a3 hN hJ33.1 hp37) ?_
    rintro _ ⟨M34, rfl, hJ35, hq38⟩
    replace hb : zHd _ := hb  (zi M34) (zi_fr hJ35.2) hq38
    have hJ40 := zJ_trans hJ33 hJ35 (zSub_cons (fun _ _ h h' hk => zIR_e (by omega) (by omega) hk) (zSub_cons (fun _ _ h h' hk => zIR_s (zIR_a (by omega) (by omega))) zSub_nil))
    show ZW _ _ _ _ _ _ _ (41, [some (.ref 0), some (.int a0), some (.int a1), some (.int a2), some (.int a3), some (.int a4)], [], M34)
    refine w_lo dX8_feed_41 rfl rfl rfl rfl ?_
    refine w_lo dX8_feed_42 rfl rfl rfl rfl ?_
    refine w_iv dX8_feed_44 rfl rfl (As := [.int a4]) rfl rfl hJ40.1.1 zs_0 (Nat.le_of_ble_eq_true rfl) ?_
    obtain ⟨P43, hp44, hb⟩ := hb
    replace hb : zHd _ := hb
    refine ZV.imp (u_2051 a4 hN hJ40.1 hp44) ?_
    rintro _ ⟨M41, rfl, hJ42, hq45⟩
    replace hb : zHd _ := hb  (zi M41) (zi_fr hJ42.2) hq45
    have hJ47 := zJ_trans hJ40 hJ42 (zSub_cons (fun _ _ h h' hk => zIR_e (by omega) (by omega) hk) (zSub_cons (fun _ _ h h' hk => zIR_s (zIR_a (by omega) (by omega))) zSub_nil))
    show ZW _ _ _ _ _ _ _ (47, [some (.ref 0), some (.int a0), some (.int a1), some (.int a2), some (.int a3), some (.int a4)], [], M41)
    refine w_lo dX8_feed_47 rfl rfl rfl rfl ?_
    refine w_gfi dX8_feed_48 rfl hJ47.1 zs_0 (Nat.le_of_ble_eq_true rfl) zo_0_1 ?_
    intro x48 f49 h50 h51
    replace hb : zHd _ := hb x48.toInt (ziE f49) h50 h51
    refine w_eni dX8_feed_51 rfl rfl ?_
    exact ⟨_, _, rfl, (by omega), (by omega), hJ47, hb⟩
set_option maxRecDepth 100000 in
theorem u_2307 {X : List Int32} {d N : Nat} {M0 : zM} (a0 : Int32) (hN : N ≤ 600) (hB0 : zB N M0) {Q : zF → Prop} (hb : b_2307 (zi M0) a0.toInt Q) : ZV X (d + 1) 2307 [.ref 386, .int a0] M0 (zRV N [(386, 387, 1), (387, 388, 1000)] M0 (fun M' => Q (zi M'))) := by
  have hJ0 : zJ N [(386, 387, 1), (387, 388, 1000)] M0 M0 := zJ_refl hB0
  refine ZV.of (ini := false) rfl (Nat.le_of_ble_eq_true rfl) (by decide +kernel) ?_
  obtain ⟨I3, hbE, hb3⟩ := hb
  replace hbE : zHd _ := hbE
  replace hb3 : zHd _ := hb3
  have main : ∀ n : Nat,
      (∀ (M : zM) (v3_1 : Int32) (v3_2 : Int32), zJ N [(386, 387, 1), (387, 388, 1000)] M0 M → ((-2147483648 : Int) ≤ v3_1.toInt) → (v3_1.toInt ≤ 2147483647) → ((-8 : Int) ≤ v3_2.toInt) → (v3_2.toInt ≤ 24) → I3 n (zi M) v3_1.toInt v3_2.toInt → ZW X (d + 0) 9 false none cX9_put (zRV N [(386, 387, 1), (387, 388, 1000)] M0 (fun M' => Q (zi M'))) (3, [some (.ref 386), some (.int v3_1), some (.int v3_2)], [], M)) := by
    intro n
    induction n using Nat.strongRecOn with
    | _ n ih =>
      · intro M v3_1 v3_2 hJ v3_10 v3_11 v3_20 v3_21 hI
        have hb : zHd _ := hb3 n (zi M) v3_1.toInt v3_2.toInt (zi_fr hJ.2) v3_20 v3_21 hI
        refine w_lo dX9_put_3 rfl rfl rfl rfl ?_
        rcases zcut v3_2.toInt (0 : Int) with h1 | h1
        · skip
          replace hb : zHd _ := hb.1 h1
          refine w_ilt_t dX9_put_4 (t := 39) rfl (by omega) ?_
          refine w_en dX9_put_39 rfl ?_
          exact ⟨_, rfl, hJ, hb⟩
        · skip
          replace hb : zHd _ := hb.2 h1
          refine w_ilt_f dX9_put_4 (t := 39) rfl (by omega) ?_
          refine w_lo dX9_put_7 rfl rfl rfl rfl ?_
          refine w_gf dX9_put_8 rfl hJ.1.1 zs_386 (zr_386_0 hJ.1) ?_
          refine w_lo dX9_put_11 rfl rfl rfl rfl ?_
          refine w_gfi dX9_put_12 rfl hJ.1 zs_386 (Nat.le_of_ble_eq_true rfl) zo_386_1 ?_
          intro x2 f3 h4 h5
          replace hb : zHd _ := hb x2.toInt (ziE f3) h4 h5
          refine w_lo dX9_put_15 rfl rfl rfl rfl ?_
          refine w_lo dX9_put_16 rfl rfl rfl rfl ?_
          refine w_exE dX9_put_17 rfl rfl ?_
          intro x7 h6
          replace hb : zHd _ := hb x7.toInt (by rw [h6, zxshr_i])
          refine w_si dX9_put_18 (c := 255) (by decide) ?_
          refine w_andE dX9_put_21 (m := 255) zt_255 (by omega) ?_
          intro x9 h10 h11 h8
          replace hb : zHd _ := hb x9.toInt (by rw [h8, zxand_i, zt_255]) h10 h11
          refine w_isi dX9_put_22 hJ zs_387 (by omega) (by omega) zu_387 (by omega) (by omega) (zIR_s (zIR_a (by omega) (by omega))) ?_
          intro M12 hJ13 f14 hn15
          replace hb : zHd _ := hb (zi M12) (zi_zup hn15 f14 rfl rfl)
          refine w_lo dX9_put_23 rfl rfl rfl rfl ?_
          refine w_pu dX9_put_24 rfl rfl ?_
          have f17 := (hn15 (386) 1 (Or.inl (by omega))).trans (f3)
          refine w_gf dX9_put_25 rfl hJ13.1.1 zs_386 f17 ?_
          refine w_ic dX9_put_28 zi_1 ?_
          refine w_add dX9_put_29 (by have := zt_1; omega) ?_
          intro x18 h19
          have := zt_1
          replace hb : zHd _ := hb x18.toInt (by have := zt_1; omega)
          have h24 := hb.1
          replace hb : zHd _ := hb.2
          refine w_pfi dX9_put_30 rfl hJ13 zs_386 (Nat.le_of_ble_eq_true rfl) zo_386_1 (by omega) (by omega) (zIR_k (by omega) (by omega)) rfl rfl rfl ?_
          intro M20 hJ21 f22 hn23
          replace hb : zHd _ := hb (zi M20) (zi_zup hn23 f22 rfl rfl)
          refine w_inc (kk := 2) dX9_put_33 rfl (m := -8) (by decide) (by omega) ?_
          intro x26 h27
          refine ⟨_, rfl, ?_⟩
          replace hb : zHd _ := hb x26.toInt h27
          show ZW _ _ _ _ _ _ _ (36, [some (.ref 386), some (.int v3_1), some (.int x26)], [], M20)
          refine w_gt dX9_put_36 (t := 3) rfl ?_
          obtain ⟨m, hm, hI⟩ := hb
          exact (ih m hm) M20 v3_1 x26 hJ21 (zbot _) (ztop _) (by omega) (by omega) hI
  have hb : zHd _ := hbE
  show ZW _ _ _ _ _ _ _ (0, [some (.ref 386), some (.int a0), none], [], M0)
  refine w_bi dX9_put_0 (c := 24) (by decide) ?_
  refine w_lo (ml' := [some (.ref 386), some (.int a0), some (.int 24)]) dX9_put_2 rfl rfl rfl rfl ?_
  obtain ⟨m, hI⟩ := hb
  exact (main m) M0 a0 24 hJ0 (zbot _) (ztop _) (by have := zt_24; omega) (by have := zt_24; omega) hI
set_option maxRecDepth 100000 in
theorem u_2305 {X : List Int32} {d N : Nat} {M0 : zM} (a0 : Int32) (a1 : Int32) (a2 : Int32) (a3 : Int32) (a4 : Int32) (hN : N ≤ 600) (hB0 : zB N M0) {Q : Int → zF → Prop} (hb : b_2305 (zi M0) a0.toInt a1.toInt a2.toInt a3.toInt a4.toInt Q) : ZV X (d + 2) 2305 [.ref 386, .int a0, .int a1, .int a2, .int a3, .int a4] M0 (zRI N [(386, 387, 1), (387, 388, 1000), (415, 416, 1000)] M0 (-1) (1600) (fun v M' => Q v.toInt (zi M'))) := by
  have hJ0 : zJ N [(386, 387, 1), (387, 388, 1000), (415, 416, 1000)] M0 M0 := zJ_refl hB0
  refine ZV.of (ini := false) rfl (Nat.le_of_ble_eq_true rfl) (by decide +kernel) ?_
  unfold b_2305 at hb
  replace hb : zHd _ := hb
  show ZW _ _ _ _ _ _ _ (0, [some (.ref 386), some (.int a0), some (.int a1), some (.int a2), some (.int a3), some (.int a4)], [], M0)
  refine w_lo dX9_feed_0 rfl rfl rfl rfl ?_
  refine w_gfi dX9_feed_1 rfl hJ0.1 zs_386 (Nat.le_of_ble_eq_true rfl) zo_386_1 ?_
  intro x1 f2 h3 h4
  replace hb : zHd _ := hb x1.toInt (ziE f2) h3 h4
  refine w_bi dX9_feed_4 (c := 20) (by decide) ?_
  refine w_add dX9_feed_6 (by have := zt_20; omega) ?_
  intro x5 h6
  have := zt_20
  replace hb : zHd _ := hb x5.toInt (by have := zt_20; omega)
  refine w_si dX9_feed_7 (c := 1600) (by decide) ?_
  rcases zcut (1600 : Int) x5.toInt with h7 | h7
  · skip
    replace hb : zHd _ := hb.1 h7
    refine w_cle_f dX9_feed_10 (t := 19) rfl (by have := zt_1600; omega) ?_
    refine w_lo dX9_feed_13 rfl rfl rfl rfl ?_
    refine w_ic dX9_feed_14 zi_0 ?_
    refine w_iv dX9_feed_15 rfl rfl (As := [.int 0]) rfl rfl hJ0.1.1 zs_386 (Nat.le_of_ble_eq_true rfl) ?_
    refine ZV.imp (k_2306 0 (by have := zt_0; omega) (by have := zt_0; omega) hN hJ0.1) ?_
    rintro _ ⟨x11, M8, rfl, h12, h13, hJ9, hq10⟩
    replace hb : zHd _ := hb x11.toInt h12 h13 (zi M8) (zi_fr hJ9.2)
    have hJ15 := zJ_trans hJ0 hJ9 (zSub_cons (fun _ _ h h' hk => zIR_s (zIR_s (zIR_a (by omega) (by omega)))) zSub_nil)
    show ZW _ _ _ _ _ _ _ (18, [some (.ref 386), some (.int a0), some (.int a1), some (.int a2), some (.int a3), some (.int a4)], [.int x11], M8)
    refine w_eni dX9_feed_18 rfl rfl ?_
    exact ⟨_, _, rfl, (by omega), (by omega), hJ15, hb⟩
  · skip
    replace hb : zHd _ := hb.2 h7
    refine w_cle_t dX9_feed_10 (t := 19) rfl (by have := zt_1600; omega) ?_
    refine w_lo dX9_feed_19 rfl rfl rfl rfl ?_
    refine w_lo dX9_feed_20 rfl rfl rfl rfl ?_
    refine w_iv dX9_feed_21 rfl rfl (As := [.int a0]) rfl rfl hJ0.1.1 zs_386 (Nat.le_of_ble_eq_true rfl) ?_
    obtain ⟨P18, hp19, hb⟩ := hb
    replace hb : zHd _ := hb
    refine ZV.imp (u_2307 a0 hN hJ0.1 hp19) ?_
    rintro _ ⟨M16, rfl, hJ17, hq20⟩
    replace hb : zHd _ := hb  (zi M16) (zi_fr hJ17.2) hq20
    have hJ22 := zJ_trans hJ0 hJ17 (zSub_cons (fun _ _ h h' hk => zIR_e (by omega) (by omega) hk) (zSub_cons (fun _ _ h h' hk => zIR_s (zIR_a (by omega) (by omega))) zSub_nil))
    show ZW _ _ _ _ _ _ _ (24, [some (.ref 386), some (.int a0), some (.int a1), some (.int a2), some (.int a3), some (.int a4)], [], M16)
    refine w_lo dX9_feed_24 rfl rfl rfl rfl ?_
    refine w_lo dX9_feed_25 rfl rfl rfl rfl ?_
    refine w_iv dX9_feed_26 rfl rfl (As := [.int a1]) rfl rfl hJ22.1.1 zs_386 (Nat.le_of_ble_eq_true rfl) ?_
    obtain ⟨P25, hp26, hb⟩ := hb
    replace hb : zHd _ := hb
    refine ZV.imp (u_2307 a1 hN hJ22.1 hp26) ?_
    rintro _ ⟨M23, rfl, hJ24, hq27⟩
    replace hb : zHd _ := hb  (zi M23) (zi_fr hJ24.2) hq27
    have hJ29 := zJ_trans hJ22 hJ24 (zSub_cons (fun _ _ h h' hk => zIR_e (by omega) (by omega) hk) (zSub_cons (fun _ _ h h' hk => zIR_s (zIR_a (by omega) (by omega))) zSub_nil))
    show ZW _ _ _ _ _ _ _ (29, [some (.ref 386), some (.int a0), some (.int a1), some (.int a2), some (.int a3), some (.int a4)], [], M23)
    refine w_lo dX9_feed_29 rfl rfl rfl rfl ?_
    refine w_lo dX9_feed_30 rfl rfl rfl rfl ?_
    refine w_iv dX9_feed_31 rfl rfl (As := [.int a2]) rfl rfl hJ29.1.1 zs_386 (Nat.le_of_ble_eq_true rfl) ?_
    obtain ⟨P32, hp33, hb⟩ := hb
    replace hb : zHd _ := hb
    refine ZV.imp (u_2307 a2 hN hJ29.1 hp33) ?_
    rintro _ ⟨M30, rfl, hJ31, hq34⟩
    replace hb : zHd _ := hb  (zi M30) (zi_fr hJ31.2) hq34
    have hJ36 := zJ_trans hJ29 hJ31 (zSub_cons (fun _ _ h h' hk => zIR_e (by omega) (by omega) hk) (zSub_cons (fun _ _ h h' hk => zIR_s (zIR_a (by omega) (by omega))) zSub_nil))
    show ZW _ _ _ _ _ _ _ (34, [some (.ref 386), some (.int a0), some (.int a1), some (.int a2), some (.int a3), some (.int a4)], [], M30)
    refine w_lo dX9_feed_34 rfl rfl rfl rfl ?_
    refine w_lo dX9_feed_35 rfl rfl rfl rfl ?_
    refine w_iv dX9_feed_37 rfl rfl (As := [.int a3]) rfl rfl hJ36.1.1 zs_386 (Nat.le_of_ble_eq_true rfl) ?_
    obtain ⟨P39, hp40, hb⟩ := hb
    replace hb : zHd _ := hb
    refine ZV.imp (u_2307 a3 hN hJ36.1 hp40) ?_
    rintro _ ⟨M37, rfl, hJ38, hq41⟩
    replace hb : zHd _ := hb  (zi M37) (zi_fr hJ38.2) hq41
    have hJ43 := zJ_trans hJ36 hJ38 (zSub_cons (fun _ _ h h' hk => zIR_e (by omega) (by omega) hk) (zSub_cons (fun _ _ h h' hk => zIR_s (zIR_a (by omega) (by omega))) zSub_nil))
    show ZW _ _ _ _ _ _ _ (40, [some (.ref 386), some (.int a0), some (.int a1), some (.int a2), some (.int a3), some (.int a4)], [], M37)
    refine w_lo dX9_feed_40 rfl rfl rfl rfl ?_
    refine w_lo dX9_feed_41 rfl rfl rfl rfl ?_
    refine w_iv dX9_feed_43 rfl rfl (As := [.int a4]) rfl rfl hJ43.1.1 zs_386 (Nat.le_of_ble_eq_true rfl) ?_
    obtain ⟨P46, hp47, hb⟩ := hb
    replace hb : zHd _ := hb
    refine ZV.imp (u_2307 a4 hN hJ43.1 hp47) ?_
    rintro _ ⟨M44, rfl, hJ45, hq48⟩
    replace hb : zHd _ := hb  (zi M44) (zi_fr hJ45.2) hq48
    have hJ50 := zJ_trans hJ43 hJ45 (zSub_cons (fun _ _ h h' hk => zIR_e (by omega) (by omega) hk) (zSub_cons (fun _ _ h h' hk => zIR_s (zIR_a (by omega) (by omega))) zSub_nil))
    show ZW _ _ _ _ _ _ _ (46, [some (.ref 386), some (.int a0), some (.int a1), some (.int a2), some (.int a3), some (.int a4)], [], M44)
    refine w_lo dX9_feed_46 rfl rfl rfl rfl ?_
    refine w_gfi dX9_feed_47 rfl hJ50.1 zs_386 (Nat.le_of_ble_eq_true rfl) zo_386_1 ?_
    intro x51 f52 h53 h54
    replace hb : zHd _ := hb x51.toInt (ziE f52) h53 h54
    refine w_eni dX9_feed_50 rfl rfl ?_
    exact ⟨_, _, rfl, (by omega), (by omega), hJ50, hb⟩
set_option maxHeartbeats 4000000 in
theorem v_2051 {s0 : zF} {a0 : Int} (h : s0 0 1 + 4 ≤ 1600) (h0 : 0 ≤ s0 0 1) : b_2051 s0 a0 (fun g => PUTD 1 0 s0 a0 4 g) := by
  refine ⟨fun n g v3_1 v3_2 => n = (v3_2 + 100).toNat ∧ v3_1 = a0 ∧ ∃ j : Nat, j ≤ 4 ∧ v3_2 = 24 - 8 * (j : Int) ∧ PUTD 1 0 s0 a0 j g, ?_, ?_⟩
  · skip
    exact ⟨_, rfl, rfl, 0, by decide, by omega, PUTD_0⟩
  · intro n g v3_1 v3_2 rg qv3_20 qv3_21 hI
    obtain ⟨hn, hv, j, hj, hj2, hp⟩ := hI
    have hp1 := hp.1
    refine ⟨fun h1 => ?_, fun h1 => ?_⟩
    · skip
      have e4 : j = 4 := by omega
      rw [e4] at hp
      exact hp
    · skip
      intro x2 ex2 fx2 gx2
      refine ⟨fun h6 => ?_, fun h6 => ?_⟩
      · skip
        intro x8 ex8
        intro x10 ex10 fx10 gx10
        intro g17 eg17
        intro x19 ex19
        intro g25 eg25
        intro x26 ex26
        have hx : x10 = zxand (zxshr a0 (24 - 8 * (j : Int))) 255 := by
          rw [ex10, ex8, hv, hj2]
        have q := PUTD_s hp (by decide) h0 hx (y := x19) (by omega)
        rw [← ex2, ← eg17, ← eg25] at q
        exact ⟨_, by omega, rfl, hv, j + 1, by omega, by omega, q⟩
      · skip
        exfalso
        omega
set_option maxHeartbeats 4000000 in
theorem v_2049 {s0 : zF} {a0 a1 a2 a3 a4 : Int} : b_2049 s0 a0 a1 a2 a3 a4 (fun v g => s0 0 1 + 20 ≤ 1600 ∧ FDD 1 0 s0 (fun k => if k = 0 then a0 else if k = 1 then a1 else if k = 2 then a2 else if k = 3 then a3 else a4) 5 g ∧ v = s0 0 1 + 20 ∨ 1600 < s0 0 1 + 20 ∧ g 1 = s0 1 ∧ g 0 1 = s0 0 1 ∧ v = -1) := by
  unfold b_2049
  intro x1 ex1 fx1 gx1
  intro x5 ex5
  refine ⟨fun h7 => ?_, fun h7 => ?_⟩
  · skip
    intro g11 rg11 
    exact Or.inr ⟨by omega, rg11.a (by decide), rg11.s (by decide), rfl⟩
  · skip
    refine ⟨fun g' => PUTD 1 0 s0 a0 4 g', ?_, ?_⟩
    · skip
      have F0 : FDD 1 0 s0 (fun k => if k = 0 then a0 else if k = 1 then a1 else if k = 2 then a2 else if k = 3 then a3 else a4) 0 s0 := FDD_0
      have l0 : 0 ≤ s0 0 1 := by omega
      exact v_2051 (by omega) (by omega)
    · skip
      intro g18 rg18 qg18
      refine ⟨fun g' => PUTD 1 0 g18 a1 4 g', ?_, ?_⟩
      · skip
        have F0 : FDD 1 0 s0 (fun k => if k = 0 then a0 else if k = 1 then a1 else if k = 2 then a2 else if k = 3 then a3 else a4) 0 s0 := FDD_0
        have l0 : 0 ≤ s0 0 1 := by omega
        have p1 : PUTD 1 0 s0 a0 4 g18 := qg18
        have F1 := FDD_s F0 l0 p1 rfl
        have l1 := F1.1
        exact v_2051 (by omega) (by omega)
      · skip
        intro g25 rg25 qg25
        refine ⟨fun g' => PUTD 1 0 g25 a2 4 g', ?_, ?_⟩
        · skip
          have F0 : FDD 1 0 s0 (fun k => if k = 0 then a0 else if k = 1 then a1 else if k = 2 then a2 else if k = 3 then a3 else a4) 0 s0 := FDD_0
          have l0 : 0 ≤ s0 0 1 := by omega
          have p1 : PUTD 1 0 s0 a0 4 g18 := qg18
          have F1 := FDD_s F0 l0 p1 rfl
          have l1 := F1.1
          have p2 : PUTD 1 0 g18 a1 4 g25 := qg25
          have F2 := FDD_s F1 l0 p2 rfl
          have l2 := F2.1
          exact v_2051 (by omega) (by omega)
        · skip
          intro g32 rg32 qg32
          refine ⟨fun g' => PUTD 1 0 g32 a3 4 g', ?_, ?_⟩
          · skip
            have F0 : FDD 1 0 s0 (fun k => if k = 0 then a0 else if k = 1 then a1 else if k = 2 then a2 else if k = 3 then a3 else a4) 0 s0 := FDD_0
            have l0 : 0 ≤ s0 0 1 := by omega
            have p1 : PUTD 1 0 s0 a0 4 g18 := qg18
            have F1 := FDD_s F0 l0 p1 rfl
            have l1 := F1.1
            have p2 : PUTD 1 0 g18 a1 4 g25 := qg25
            have F2 := FDD_s F1 l0 p2 rfl
            have l2 := F2.1
            have p3 : PUTD 1 0 g25 a2 4 g32 := qg32
            have F3 := FDD_s F2 l0 p3 rfl
            have l3 := F3.1
            exact v_2051 (by omega) (by omega)
          · skip
            intro g39 rg39 qg39
            refine ⟨fun g' => PUTD 1 0 g39 a4 4 g', ?_, ?_⟩
            · skip
              have F0 : FDD 1 0 s0 (fun k => if k = 0 then a0 else if k = 1 then a1 else if k = 2 then a2 else if k = 3 then a3 else a4) 0 s0 := FDD_0
              have l0 : 0 ≤ s0 0 1 := by omega
              have p1 : PUTD 1 0 s0 a0 4 g18 := qg18
              have F1 := FDD_s F0 l0 p1 rfl
              have l1 := F1.1
              have p2 : PUTD 1 0 g18 a1 4 g25 := qg25
              have F2 := FDD_s F1 l0 p2 rfl
              have l2 := F2.1
              have p3 : PUTD 1 0 g25 a2 4 g32 := qg32
              have F3 := FDD_s F2 l0 p3 rfl
              have l3 := F3.1
              have p4 : PUTD 1 0 g32 a3 4 g39 := qg39
              have F4 := FDD_s F3 l0 p4 rfl
              have l4 := F4.1
              exact v_2051 (by omega) (by omega)
            · skip
              intro g46 rg46 qg46
              intro x48 ex48 fx48 gx48
              have F0 : FDD 1 0 s0 (fun k => if k = 0 then a0 else if k = 1 then a1 else if k = 2 then a2 else if k = 3 then a3 else a4) 0 s0 := FDD_0
              have l0 : 0 ≤ s0 0 1 := by omega
              have p1 : PUTD 1 0 s0 a0 4 g18 := qg18
              have F1 := FDD_s F0 l0 p1 rfl
              have l1 := F1.1
              have p2 : PUTD 1 0 g18 a1 4 g25 := qg25
              have F2 := FDD_s F1 l0 p2 rfl
              have l2 := F2.1
              have p3 : PUTD 1 0 g25 a2 4 g32 := qg32
              have F3 := FDD_s F2 l0 p3 rfl
              have l3 := F3.1
              have p4 : PUTD 1 0 g32 a3 4 g39 := qg39
              have F4 := FDD_s F3 l0 p4 rfl
              have l4 := F4.1
              have p5 : PUTD 1 0 g39 a4 4 g46 := qg46
              have F5 := FDD_s F4 l0 p5 rfl
              have l5 := F5.1
              exact Or.inl ⟨by omega, F5, by omega⟩
set_option maxHeartbeats 4000000 in
theorem v_2307 {s0 : zF} {a0 : Int} (h : s0 386 1 + 4 ≤ 1600) (h0 : 0 ≤ s0 386 1) : b_2307 s0 a0 (fun g => PUTD 387 386 s0 a0 4 g) := by
  refine ⟨fun n g v3_1 v3_2 => n = (v3_2 + 100).toNat ∧ v3_1 = a0 ∧ ∃ j : Nat, j ≤ 4 ∧ v3_2 = 24 - 8 * (j : Int) ∧ PUTD 387 386 s0 a0 j g, ?_, ?_⟩
  · skip
    exact ⟨_, rfl, rfl, 0, by decide, by omega, PUTD_0⟩
  · intro n g v3_1 v3_2 rg qv3_20 qv3_21 hI
    obtain ⟨hn, hv, j, hj, hj2, hp⟩ := hI
    have hp1 := hp.1
    refine ⟨fun h1 => ?_, fun h1 => ?_⟩
    · skip
      have e4 : j = 4 := by omega
      rw [e4] at hp
      exact hp
    · skip
      intro x2 ex2 fx2 gx2
      intro x7 ex7
      intro x9 ex9 fx9 gx9
      intro g16 eg16
      intro x18 ex18
      have oh24 : (x18 ≤ 1600) := by
        omega
      refine ⟨oh24, ?_⟩
      intro g25 eg25
      intro x26 ex26
      have hx : x9 = zxand (zxshr a0 (24 - 8 * (j : Int))) 255 := by
        rw [ex9, ex7, hv, hj2]
      have q := PUTD_s hp (by decide) h0 hx (y := x18) (by omega)
      rw [← ex2, ← eg16, ← eg25] at q
      exact ⟨_, by omega, rfl, hv, j + 1, by omega, by omega, q⟩
set_option maxHeartbeats 4000000 in
theorem v_2305 {s0 : zF} {a0 a1 a2 a3 a4 : Int} : b_2305 s0 a0 a1 a2 a3 a4 (fun v g => s0 386 1 + 20 ≤ 1600 ∧ FDD 387 386 s0 (fun k => if k = 0 then a0 else if k = 1 then a1 else if k = 2 then a2 else if k = 3 then a3 else a4) 5 g ∧ v = s0 386 1 + 20 ∨ 1600 < s0 386 1 + 20 ∧ g 387 = s0 387 ∧ g 386 1 = s0 386 1 ∧ v = -1) := by
  unfold b_2305
  intro x1 ex1 fx1 gx1
  intro x5 ex5
  refine ⟨fun h7 => ?_, fun h7 => ?_⟩
  · skip
    intro x11 hx111 hx112 g14 rg14 
    exact Or.inr ⟨by omega, rg14.a (by decide), rg14.s (by decide), by omega⟩
  · skip
    refine ⟨fun g' => PUTD 387 386 s0 a0 4 g', ?_, ?_⟩
    · skip
      have F0 : FDD 387 386 s0 (fun k => if k = 0 then a0 else if k = 1 then a1 else if k = 2 then a2 else if k = 3 then a3 else a4) 0 s0 := FDD_0
      have l0 : 0 ≤ s0 386 1 := by omega
      exact v_2307 (by omega) (by omega)
    · skip
      intro g21 rg21 qg21
      refine ⟨fun g' => PUTD 387 386 g21 a1 4 g', ?_, ?_⟩
      · skip
        have F0 : FDD 387 386 s0 (fun k => if k = 0 then a0 else if k = 1 then a1 else if k = 2 then a2 else if k = 3 then a3 else a4) 0 s0 := FDD_0
        have l0 : 0 ≤ s0 386 1 := by omega
        have p1 : PUTD 387 386 s0 a0 4 g21 := qg21
        have F1 := FDD_s F0 l0 p1 rfl
        have l1 := F1.1
        exact v_2307 (by omega) (by omega)
      · skip
        intro g28 rg28 qg28
        refine ⟨fun g' => PUTD 387 386 g28 a2 4 g', ?_, ?_⟩
        · skip
          have F0 : FDD 387 386 s0 (fun k => if k = 0 then a0 else if k = 1 then a1 else if k = 2 then a2 else if k = 3 then a3 else a4) 0 s0 := FDD_0
          have l0 : 0 ≤ s0 386 1 := by omega
          have p1 : PUTD 387 386 s0 a0 4 g21 := qg21
          have F1 := FDD_s F0 l0 p1 rfl
          have l1 := F1.1
          have p2 : PUTD 387 386 g21 a1 4 g28 := qg28
          have F2 := FDD_s F1 l0 p2 rfl
          have l2 := F2.1
          exact v_2307 (by omega) (by omega)
        · skip
          intro g35 rg35 qg35
          refine ⟨fun g' => PUTD 387 386 g35 a3 4 g', ?_, ?_⟩
          · skip
            have F0 : FDD 387 386 s0 (fun k => if k = 0 then a0 else if k = 1 then a1 else if k = 2 then a2 else if k = 3 then a3 else a4) 0 s0 := FDD_0
            have l0 : 0 ≤ s0 386 1 := by omega
            have p1 : PUTD 387 386 s0 a0 4 g21 := qg21
            have F1 := FDD_s F0 l0 p1 rfl
            have l1 := F1.1
            have p2 : PUTD 387 386 g21 a1 4 g28 := qg28
            have F2 := FDD_s F1 l0 p2 rfl
            have l2 := F2.1
            have p3 : PUTD 387 386 g28 a2 4 g35 := qg35
            have F3 := FDD_s F2 l0 p3 rfl
            have l3 := F3.1
            exact v_2307 (by omega) (by omega)
          · skip
            intro g42 rg42 qg42
            refine ⟨fun g' => PUTD 387 386 g42 a4 4 g', ?_, ?_⟩
            · skip
              have F0 : FDD 387 386 s0 (fun k => if k = 0 then a0 else if k = 1 then a1 else if k = 2 then a2 else if k = 3 then a3 else a4) 0 s0 := FDD_0
              have l0 : 0 ≤ s0 386 1 := by omega
              have p1 : PUTD 387 386 s0 a0 4 g21 := qg21
              have F1 := FDD_s F0 l0 p1 rfl
              have l1 := F1.1
              have p2 : PUTD 387 386 g21 a1 4 g28 := qg28
              have F2 := FDD_s F1 l0 p2 rfl
              have l2 := F2.1
              have p3 : PUTD 387 386 g28 a2 4 g35 := qg35
              have F3 := FDD_s F2 l0 p3 rfl
              have l3 := F3.1
              have p4 : PUTD 387 386 g35 a3 4 g42 := qg42
              have F4 := FDD_s F3 l0 p4 rfl
              have l4 := F4.1
              exact v_2307 (by omega) (by omega)
            · skip
              intro g49 rg49 qg49
              intro x51 ex51 fx51 gx51
              have F0 : FDD 387 386 s0 (fun k => if k = 0 then a0 else if k = 1 then a1 else if k = 2 then a2 else if k = 3 then a3 else a4) 0 s0 := FDD_0
              have l0 : 0 ≤ s0 386 1 := by omega
              have p1 : PUTD 387 386 s0 a0 4 g21 := qg21
              have F1 := FDD_s F0 l0 p1 rfl
              have l1 := F1.1
              have p2 : PUTD 387 386 g21 a1 4 g28 := qg28
              have F2 := FDD_s F1 l0 p2 rfl
              have l2 := F2.1
              have p3 : PUTD 387 386 g28 a2 4 g35 := qg35
              have F3 := FDD_s F2 l0 p3 rfl
              have l3 := F3.1
              have p4 : PUTD 387 386 g35 a3 4 g42 := qg42
              have F4 := FDD_s F3 l0 p4 rfl
              have l4 := F4.1
              have p5 : PUTD 387 386 g42 a4 4 g49 := qg49
              have F5 := FDD_s F4 l0 p5 rfl
              have l5 := F5.1
              exact Or.inl ⟨by omega, F5, by omega⟩
