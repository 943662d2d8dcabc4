/-! pure proofs of the Reader: the cutting (wip/safe/vcp.py) -/
set_option maxHeartbeats 4000000 in
theorem v_1283 {s0 : zF} {a0 : Int} (h0 : 0 ≤ a0) (h1 : a0 ≤ 255) : b_1283 s0 a0 (fun v g => g = s0 ∧ v = kof a0) := by
  refine ⟨fun n g v28_0 => n = 0 ∧ v28_0 = a0 ∧ ¬(a0 = 32 ∨ a0 = 10) ∧ ¬(97 ≤ a0 ∧ a0 ≤ 122), ?_, ?_⟩
  · skip
    refine ⟨fun h14 => ?_, fun h14 => ?_⟩
    · skip
      refine ⟨fun h15 => ?_, fun h15 => ?_⟩
      · skip
        refine ⟨fun h16 => ?_, fun h16 => ?_⟩
        · skip
          exact ⟨0, rfl, rfl, by omega, by omega⟩
        · skip
          refine ⟨fun h17 => ?_, fun h17 => ?_⟩
          · skip
            exact ⟨0, rfl, rfl, by omega, by omega⟩
          · skip
            exact ⟨rfl, (kof_L ⟨by omega, by omega⟩).symm⟩
      · skip
        exact ⟨rfl, (kof_0.mpr (by omega)).symm⟩
    · skip
      exact ⟨rfl, (kof_0.mpr (by omega)).symm⟩
  · intro n g v28_0 rg qv28_00 qv28_01 hI
    obtain ⟨hn, hv, n1, n2⟩ := hI
    have hg := zFr_nl rg
    subst hv
    refine ⟨fun h1 => ?_, fun h1 => ?_⟩
    · skip
      refine ⟨fun h2 => ?_, fun h2 => ?_⟩
      · skip
        intro x3 ex3
        intro x5 ex5
        refine ⟨fun h7 => ?_, fun h7 => ?_⟩
        · skip
          refine ⟨hg, ?_⟩
          rw [kof_sg n1 n2 (by omega)]
          have w : x5 = zxix (zxi2c v28_0) := by rw [ex5, ex3]
          have sg := zxix_sg (c := v28_0) (by omega) (by omega)
          rw [if_neg (by rw [sg.mp (by omega)]; decide)]
        · skip
          refine ⟨hg, ?_⟩
          rw [kof_sg n1 n2 (by omega)]
          have w : x5 = zxix (zxi2c v28_0) := by rw [ex5, ex3]
          have sg := zxix_sg (c := v28_0) (by omega) (by omega)
          have c : sgL.contains v28_0 = true := by
            cases q : sgL.contains v28_0 with
            | true => rfl
            | false =>
              have := sg.mpr q
              omega
          rw [if_pos c]
      · skip
        refine ⟨hg, ?_⟩
        rw [kof_sg n1 n2 (by omega)]
        have e : v28_0 = 0 := by omega
        rw [e]
        decide
    · skip
      refine ⟨fun h8 => ?_, fun h8 => ?_⟩
      · skip
        intro x9 ex9
        intro x11 ex11
        refine ⟨fun h13 => ?_, fun h13 => ?_⟩
        · skip
          refine ⟨hg, ?_⟩
          rw [kof_sg n1 n2 (by omega)]
          have w : x11 = zxix (zxi2c v28_0) := by rw [ex11, ex9]
          have sg := zxix_sg (c := v28_0) (by omega) (by omega)
          rw [if_neg (by rw [sg.mp (by omega)]; decide)]
        · skip
          refine ⟨hg, ?_⟩
          rw [kof_sg n1 n2 (by omega)]
          have w : x11 = zxix (zxi2c v28_0) := by rw [ex11, ex9]
          have sg := zxix_sg (c := v28_0) (by omega) (by omega)
          have c : sgL.contains v28_0 = true := by
            cases q : sgL.contains v28_0 with
            | true => rfl
            | false =>
              have := sg.mpr q
              omega
          rw [if_pos c]
      · skip
        exact ⟨hg, (kof_D ⟨by omega, by omega⟩).symm⟩
set_option maxHeartbeats 4000000 in
theorem v_1285 {s0 : zF} {a0 a1 a2 : Int} (h : s0 2 6 ≤ 1600) : b_1285 s0 a0 a1 a2 (fun g => g = addC s0 a0 a1 a2) := by
  unfold b_1285
  intro x1 ex1 fx1 gx1
  refine ⟨fun h5 => ?_, fun h5 => ?_⟩
  · skip
    exact absurd h (by omega)
  · skip
    intro g10 eg10
    intro g16 eg16
    intro g22 eg22
    intro x24 ex24
    intro g30 eg30
    show g30 = addC s0 a0 a1 a2
    rw [eg30, eg22, eg16, eg10, ex24, ex1]
    rfl
set_option maxHeartbeats 4000000 in
theorem v_1284 {s0 : zF} {a0 a1 a2 : Int} (hc : 1 ≤ s0 2 6) (hk : run (s0 4 (s0 2 6 - 1).toNat)) (hv : s0 4 (s0 2 6 - 1).toNat = 4 → a1 ≤ 4 → 0 ≤ s0 5 (s0 2 6 - 1).toNat ∧ s0 5 (s0 2 6 - 1).toNat ≤ 999) (h0 : 0 ≤ a0) (h1 : a0 ≤ 255) : b_1284 s0 a0 a1 a2 (fun v g => (v = 0 ∧ (mxl (s0 4 (s0 2 6 - 1).toNat) : Int) < a1 ∧ g = zup (zup s0 4 (s0 2 6 - 1).toNat 1) 5 (s0 2 6 - 1).toNat a2 ∨ v = 1 ∧ a1 ≤ (mxl (s0 4 (s0 2 6 - 1).toNat) : Int) ∧ g = zup s0 5 (s0 2 6 - 1).toNat (if s0 4 (s0 2 6 - 1).toNat = 2 then zxor (s0 5 (s0 2 6 - 1).toNat) (zxshl (a0 - 96) (5 * (a1 - 1))) else 10 * s0 5 (s0 2 6 - 1).toNat + a0 - 48))) := by
  refine ⟨fun n g v45_1 v45_2 v45_3 v45_4 v45_5 s45_0 s45_1 => n = 0 ∧ g = s0 ∧ v45_1 = a0 ∧ v45_2 = a1 ∧ v45_3 = a2 ∧ v45_4 = s0 2 6 - 1 ∧ s45_0 = a1 ∧ (v45_5 = 1 ∧ s45_1 = 6 ∧ s0 4 (s0 2 6 - 1).toNat = 2 ∨ v45_5 = 0 ∧ s45_1 = 4 ∧ s0 4 (s0 2 6 - 1).toNat = 4), ?_, ?_⟩
  · skip
    intro x52 ex52 fx52 gx52
    intro x56 ex56
    refine ⟨fun h58 => ?_, fun h58 => ?_⟩
    · skip
      exact absurd hc (by omega)
    · skip
      intro x62 ex62 fx62 gx62
      refine ⟨fun h63 => ?_, fun h63 => ?_⟩
      · skip
        have ed : x56.toNat = (s0 2 6 - 1).toNat := by
          rw [ex56, ex52]
        have ek : x62 = s0 4 (s0 2 6 - 1).toNat := by
          rw [ex62, ed]
        unfold run at hk
        exact ⟨0, rfl, rfl, rfl, rfl, rfl, by omega, rfl, by omega⟩
      · skip
        have ed : x56.toNat = (s0 2 6 - 1).toNat := by
          rw [ex56, ex52]
        have ek : x62 = s0 4 (s0 2 6 - 1).toNat := by
          rw [ex62, ed]
        unfold run at hk
        exact ⟨0, rfl, rfl, rfl, rfl, rfl, by omega, rfl, by omega⟩
  · intro n g v45_1 v45_2 v45_3 v45_4 v45_5 s45_0 s45_1 rg qv45_10 qv45_11 qv45_20 qv45_21 qv45_30 qv45_31 qv45_40 qv45_41 qv45_50 qv45_51 qs45_00 qs45_01 qs45_10 qs45_11 hI
    obtain ⟨hn, hg, hv1, hv2, hv3, hv4, hs0, hs⟩ := hI
    have hd : v45_4.toNat = (s0 2 6 - 1).toNat := by rw [hv4]
    refine ⟨fun h1 => ?_, fun h1 => ?_⟩
    · skip
      intro g6 eg6
      intro g11 eg11
      refine Or.inl ⟨rfl, ?_, by rw [eg11, eg6, hg, hd, hv3]⟩
      rcases hs with ⟨q1, q2, q3⟩ | ⟨q1, q2, q3⟩
      · rw [q3]
        show ((6 : Nat) : Int) < a1
        omega
      · rw [q3]
        show ((4 : Nat) : Int) < a1
        omega
    · skip
      refine ⟨fun h12 => ?_, fun h12 => ?_⟩
      · skip
        intro x16 ex16
        intro x17 ex17
        intro x19 ex19
        intro x21 ex21
        intro x23 ex23
        intro x26 ex26
        intro x28 ex28
        intro g33 eg33
        have q3 : s0 4 (s0 2 6 - 1).toNat = 2 := by omega
        refine Or.inr ⟨rfl, ?_, ?_⟩
        · rw [q3]
          show a1 ≤ ((6 : Nat) : Int)
          omega
        · rw [eg33, if_pos q3, ex28, ex16, ex26, hg, hd, show x19 = a0 - 96 by omega, show x23 = 5 * (a1 - 1) by omega]
      · skip
        intro x37 ex37
        have oh38 : (-2147483648 ≤ 10 * x37 ∧ 10 * x37 ≤ 2147483647) := by
          have e37 : x37 = s0 5 (s0 2 6 - 1).toNat := by
            rw [ex37, hg, hd]
          have b := hv (by omega) (by omega)
          omega
        refine ⟨oh38, ?_⟩
        intro x39 ex39
        have oh41 : (-2147483648 ≤ x39 + v45_1 ∧ x39 + v45_1 ≤ 2147483647) := by
          have e37 : x37 = s0 5 (s0 2 6 - 1).toNat := by
            rw [ex37, hg, hd]
          have b := hv (by omega) (by omega)
          omega
        refine ⟨oh41, ?_⟩
        intro x42 ex42
        have oh44 : (-2147483648 ≤ x42 - 48 ∧ x42 - 48 ≤ 2147483647) := by
          have e37 : x37 = s0 5 (s0 2 6 - 1).toNat := by
            rw [ex37, hg, hd]
          have b := hv (by omega) (by omega)
          omega
        refine ⟨oh44, ?_⟩
        intro x45 ex45
        intro g51 eg51
        have q3 : s0 4 (s0 2 6 - 1).toNat = 4 := by omega
        refine Or.inr ⟨rfl, ?_, ?_⟩
        · rw [q3]
          show a1 ≤ ((4 : Nat) : Int)
          omega
        · have w : x45 = 10 * s0 5 (s0 2 6 - 1).toNat + a0 - 48 := by
            have e37 : x37 = s0 5 (s0 2 6 - 1).toNat := by
              rw [ex37, hg, hd]
            omega
          rw [eg51, if_neg (by rw [q3]; decide), w, hg, hd]
set_option maxHeartbeats 4000000 in
theorem v_1282 {s0 : zF} {a1 : Int} (h0 : 0 ≤ a1) (h1 : a1 ≤ 1600) : b_1282 s0 a1 (fun g => SCAN (s0 1) a1.toNat g) := by
  refine ⟨fun n g v13_2 v13_3 v13_4 v13_5 => n = (10 * (1700 - v13_5) + 9).toNat ∧ v13_2 = a1 ∧ 0 ≤ g 2 6 ∧ v13_5 ≤ a1 ∧ (v13_3 = 0 ∨ run v13_3) ∧ SI (s0 1) a1.toNat (g 4) (g 5) (g 6) (g 2 6).toNat v13_5.toNat v13_3 v13_4, fun n g v51_2 v51_3 v51_4 v51_5 v51_6 v51_7 => n = (10 * (1700 - v51_5) + 7).toNat ∧ v51_2 = a1 ∧ 0 ≤ g 2 6 ∧ v51_5 ≤ a1 ∧ (v51_3 = 0 ∨ run v51_3) ∧ SI (s0 1) a1.toNat (g 4) (g 5) (g 6) (g 2 6).toNat v51_5.toNat v51_3 v51_4 ∧ v51_5 < a1 ∧ v51_6 = s0 1 v51_5.toNat ∧ v51_7 = kof v51_6 ∧ run v51_7, fun n g v86_2 v86_3 v86_4 v86_5 v86_6 v86_7 v86_8 => n = (10 * (1700 - v86_5) + 5).toNat ∧ v86_2 = a1 ∧ 0 ≤ g 2 6 ∧ v86_5 ≤ a1 ∧ (v86_3 = 0 ∨ run v86_3) ∧ SI (s0 1) a1.toNat (g 4) (g 5) (g 6) (g 2 6).toNat v86_5.toNat v86_3 v86_4 ∧ v86_5 < a1 ∧ v86_6 = s0 1 v86_5.toNat ∧ v86_7 = kof v86_6 ∧ (v86_8 = 1 ∧ run v86_7 ∧ v86_7 ≠ v86_3 ∨ v86_8 = 0 ∧ ¬ run v86_7), fun n g v111_2 v111_4 v111_5 v111_6 v111_7 v111_8 => n = (10 * (1700 - v111_5) + 3).toNat ∧ v111_2 = a1 ∧ 0 ≤ g 2 6 ∧ v111_5 ≤ a1 ∧ (∃ r z, (r = 0 ∨ run r) ∧ SI (s0 1) a1.toNat (g 4) (g 5) (g 6) (g 2 6).toNat v111_5.toNat r z ∧ (v111_8 = 1 ∧ run v111_7 ∧ r = 0 ∨ v111_8 = 0 ∧ ¬ run v111_7)) ∧ v111_5 < a1 ∧ v111_6 = s0 1 v111_5.toNat ∧ v111_7 = kof v111_6 ∧ v111_7 ≠ 1, ?_, ?_, ?_, ?_, ?_⟩
  · skip
    intro g113 eg113
    refine ⟨_, rfl, rfl, ?_, h0, Or.inl rfl, ?_⟩
    · rw [eg113, zup_eq]
      decide
    · have e : (g113 2 6).toNat = 0 := by
        rw [eg113, zup_eq]
        rfl
      rw [e]
      refine ⟨Nat.le_refl _, Nat.zero_le _, Or.inl ⟨rfl, fun h => absurd h.1 (by decide), fun _ => 0, ⟨rfl, fun i hi => absurd hi (by omega), fun i hi => absurd hi (by omega)⟩, Nat.le_refl _, fun k h1 h2 => absurd h2 (by omega)⟩⟩
  · intro n g v13_2 v13_3 v13_4 v13_5 rg qv13_20 qv13_21 qv13_30 qv13_31 qv13_40 qv13_41 qv13_50 qv13_51 hI
    obtain ⟨hn, hL, hc, hp, hr, hs⟩ := hI
    have hcp := hs.1
    have t1 : g 1 = s0 1 := rg.a (by decide)
    refine ⟨fun h1 => ?_, fun h1 => ?_⟩
    · skip
      intro x5 ex5 fx5 gx5
      refine ⟨fun v g' => g' = g ∧ v = kof x5, ?_, ?_⟩
      · skip
        exact v_1283 (by omega) (by omega)
      · skip
        intro x11 hx111 hx112 g14 rg14 qg14
        refine ⟨fun h16 => ?_, fun h16 => ?_⟩
        · skip
          refine ⟨fun h17 => ?_, fun h17 => ?_⟩
          · skip
            obtain ⟨q1, q2⟩ : g14 = g ∧ _ = kof x5 := qg14
            refine ⟨_, ?_, rfl, hL, by rw [q1]; exact hc, hp, hr, by rw [q1]; exact hs, by omega, by rw [ex5, t1], q2, Or.inr ⟨rfl, by unfold run; omega⟩⟩
            omega
          · skip
            obtain ⟨q1, q2⟩ : g14 = g ∧ _ = kof x5 := qg14
            refine ⟨_, ?_, rfl, hL, by rw [q1]; exact hc, hp, hr, by rw [q1]; exact hs, by omega, by rw [ex5, t1], q2, by unfold run; omega⟩
            omega
        · skip
          obtain ⟨q1, q2⟩ : g14 = g ∧ _ = kof x5 := qg14
          refine ⟨_, ?_, rfl, hL, by rw [q1]; exact hc, hp, hr, by rw [q1]; exact hs, by omega, by rw [ex5, t1], q2, by unfold run; omega⟩
          omega
    · skip
      refine ⟨fun g' => g' = addC g 0 v13_2 v13_2, ?_, ?_⟩
      · skip
        exact v_1285 (by omega)
      · skip
        intro g23 rg23 qg23
        have q : g23 = addC g 0 v13_2 v13_2 := qg23
        have e6 : g23 2 6 = g 2 6 + 1 := by
          rw [q]
          exact addC_c
        have fo : ∀ i, i ≠ (g 2 6).toNat → g23 4 i = g 4 i ∧ g23 5 i = g 5 i ∧ g23 6 i = g 6 i := by
          rw [q]
          exact addC_o
        have fk : g23 4 (g 2 6).toNat = 0 := by
          rw [q]
          exact addC_k
        have fv : g23 5 (g 2 6).toNat = v13_2 := by
          rw [q]
          exact addC_v
        have fp : g23 6 (g 2 6).toNat = v13_2 := by
          rw [q]
          exact addC_p
        obtain ⟨P, tk⟩ := hs.s_end (by omega) fo fk (fv.trans (by omega)) (fp.trans (by omega))
        exact ⟨(g 2 6).toNat, P, by omega, tk⟩
  · intro n g v51_2 v51_3 v51_4 v51_5 v51_6 v51_7 rg qv51_20 qv51_21 qv51_30 qv51_31 qv51_40 qv51_41 qv51_50 qv51_51 qv51_60 qv51_61 qv51_70 qv51_71 hI
    obtain ⟨hn, hL, hc, hp, hr, hs, hpl, h6, h7, hrun⟩ := hI
    have hcp := hs.1
    have hrun0 := hrun
    unfold run at hrun0
    refine ⟨fun h25 => ?_, fun h25 => ?_⟩
    · skip
      refine ⟨_, ?_, rfl, hL, hc, hp, hr, hs, hpl, h6, h7, Or.inl ⟨rfl, hrun, by omega⟩⟩
      omega
    · skip
      intro x26 ex26
      have oh28 : (x26 ≤ 1700) := by
        have k51 : v51_7 = v51_3 := by omega
        have run1 : run v51_3 := by
          rw [← k51]
          exact hrun
        obtain ⟨hc0, kd, hz6, hvd⟩ := SI.opn hs run1
        omega
      refine ⟨oh28, ?_⟩
      refine ⟨fun v g' => (v = 0 ∧ (mxl (g 4 (g 2 6 - 1).toNat) : Int) < x26 ∧ g' = zup (zup g 4 (g 2 6 - 1).toNat 1) 5 (g 2 6 - 1).toNat v51_5 ∨ v = 1 ∧ x26 ≤ (mxl (g 4 (g 2 6 - 1).toNat) : Int) ∧ g' = zup g 5 (g 2 6 - 1).toNat (if g 4 (g 2 6 - 1).toNat = 2 then zxor (g 5 (g 2 6 - 1).toNat) (zxshl (v51_6 - 96) (5 * (x26 - 1))) else 10 * g 5 (g 2 6 - 1).toNat + v51_6 - 48)), ?_, ?_⟩
      · skip
        have k51 : v51_7 = v51_3 := by omega
        have run1 : run v51_3 := by
          rw [← k51]
          exact hrun
        obtain ⟨hc0, kd, hz6, hvd⟩ := SI.opn hs run1
        rw [show (g 2 6).toNat - 1 = (g 2 6 - 1).toNat by omega] at kd hvd
        refine v_1284 (by omega) (by rw [kd]; exact run1) (fun q1 q2 => ?_) (by omega) (by omega)
        rw [kd] at q1
        exact hvd q1 (by omega)
      · skip
        intro x34 hx341 hx342 g37 rg37 qg37
        refine ⟨fun h39 => ?_, fun h39 => ?_⟩
        · skip
          intro x40 ex40
          have k51 : v51_7 = v51_3 := by omega
          have q : (x34 = 0 ∧ (mxl (g 4 (g 2 6 - 1).toNat) : Int) < x26 ∧ g37 = zup (zup g 4 (g 2 6 - 1).toNat 1) 5 (g 2 6 - 1).toNat v51_5 ∨ x34 = 1 ∧ x26 ≤ (mxl (g 4 (g 2 6 - 1).toNat) : Int) ∧ g37 = zup g 5 (g 2 6 - 1).toNat (if g 4 (g 2 6 - 1).toNat = 2 then zxor (g 5 (g 2 6 - 1).toNat) (zxshl (v51_6 - 96) (5 * (x26 - 1))) else 10 * g 5 (g 2 6 - 1).toNat + v51_6 - 48)) := qg37
          have run1 : run v51_3 := by
            rw [← k51]
            exact hrun
          obtain ⟨hc0, kd, hz6, -⟩ := SI.opn hs run1
          rw [show (g 2 6).toNat - 1 = (g 2 6 - 1).toNat by omega] at kd
          rcases q with ⟨q0, -⟩ | ⟨q0, q1, q2⟩
          · exact absurd q0 (by omega)
          · rw [kd] at q1 q2
            have e6 : g37 2 6 = g 2 6 := by
              rw [q2, zup_ne (Or.inl (by decide))]
            have e4 : g37 4 = g 4 := by
              rw [q2, zup_na (by decide)]
            have e66 : g37 6 = g 6 := by
              rw [q2, zup_na (by decide)]
            have e5 : ∀ i, i ≠ (g 2 6 - 1).toNat → g37 5 i = g 5 i := fun i hi => by
              rw [q2, zup_ne (Or.inr hi)]
            have ez : x26 = v51_4 + 1 := by omega
            refine ⟨_, ?_, rfl, hL, by omega, by omega, Or.inr hrun, ?_⟩
            · omega
            · rw [e6, e4, e66, show x40.toNat = v51_5.toNat + 1 by omega, k51, ez]
              refine hs.s_more (by omega) run1 (by rw [← h6, ← h7, k51]) (by omega) ?_ (fun i => rfl) (fun i hi => e5 i (by omega)) (fun i => rfl)
              intro d a hd hz hvd
              have ed : (g 2 6 - 1).toNat = d := by omega
              rw [q2, ed, zup_eq]
              exact pkr_step run1 hz ez h6 (by rw [← h6, ← h7, k51]) hvd (by omega) (SI.letters hs run1 hz)
        · skip
          have k51 : v51_7 = v51_3 := by omega
          have q : (x34 = 0 ∧ (mxl (g 4 (g 2 6 - 1).toNat) : Int) < x26 ∧ g37 = zup (zup g 4 (g 2 6 - 1).toNat 1) 5 (g 2 6 - 1).toNat v51_5 ∨ x34 = 1 ∧ x26 ≤ (mxl (g 4 (g 2 6 - 1).toNat) : Int) ∧ g37 = zup g 5 (g 2 6 - 1).toNat (if g 4 (g 2 6 - 1).toNat = 2 then zxor (g 5 (g 2 6 - 1).toNat) (zxshl (v51_6 - 96) (5 * (x26 - 1))) else 10 * g 5 (g 2 6 - 1).toNat + v51_6 - 48)) := qg37
          have run1 : run v51_3 := by
            rw [← k51]
            exact hrun
          obtain ⟨hc0, kd, hz6, -⟩ := SI.opn hs run1
          rw [show (g 2 6).toNat - 1 = (g 2 6 - 1).toNat by omega] at kd
          rcases q with ⟨q0, q1, q2⟩ | ⟨q0, -⟩
          · rw [kd] at q1
            have e6 : g37 2 6 = g 2 6 := by
              rw [q2, zup_ne (Or.inl (by decide)), zup_ne (Or.inl (by decide))]
            obtain ⟨d, P, hd, tk⟩ := hs.s_long (K' := g37 4) (V' := g37 5) (S' := g37 6) (by omega) run1 (by rw [← h6, ← h7, k51]) (by omega) (fun i hi => by rw [q2, zup_ne (Or.inl (by decide)), zup_ne (Or.inr (by omega))]) (fun i hi => by rw [q2, zup_ne (Or.inr (by omega)), zup_ne (Or.inl (by decide))]) (fun i => by rw [q2, zup_ne (Or.inl (by decide)), zup_ne (Or.inl (by decide))]) (fun d hd => by rw [q2, show (g 2 6 - 1).toNat = d by omega, zup_ne (Or.inl (by decide)), zup_eq]) (fun d hd => by
                rw [q2, show (g 2 6 - 1).toNat = d by omega, zup_eq]
                omega)
            exact ⟨d, P, by omega, tk⟩
          · exact absurd q0 (by omega)
  · intro n g v86_2 v86_3 v86_4 v86_5 v86_6 v86_7 v86_8 rg qv86_20 qv86_21 qv86_30 qv86_31 qv86_40 qv86_41 qv86_50 qv86_51 qv86_60 qv86_61 qv86_70 qv86_71 qv86_80 qv86_81 hI
    obtain ⟨hn, hL, hc, hp, hr, hs, hpl, h6, h7, h8⟩ := hI
    have hcp := hs.1
    have h8r := h8
    unfold run at h8r
    refine ⟨fun h42 => ?_, fun h42 => ?_⟩
    · skip
      refine ⟨fun h43 => ?_, fun h43 => ?_⟩
      · skip
        refine ⟨fun h44 => ?_, fun h44 => ?_⟩
        · skip
          refine ⟨fun g' => g' = addC g 1 v86_5 v86_5, ?_, ?_⟩
          · skip
            exact v_1285 (by omega)
          · skip
            intro g50 rg50 qg50
            have q : g50 = addC g 1 v86_5 v86_5 := qg50
            have e6 : g50 2 6 = g 2 6 + 1 := by
              rw [q]
              exact addC_c
            have fo : ∀ i, i ≠ (g 2 6).toNat → g50 4 i = g 4 i ∧ g50 5 i = g 5 i ∧ g50 6 i = g 6 i := by
              rw [q]
              exact addC_o
            have fk : g50 4 (g 2 6).toNat = 1 := by
              rw [q]
              exact addC_k
            have fv : g50 5 (g 2 6).toNat = v86_5 := by
              rw [q]
              exact addC_v
            have fp : g50 6 (g 2 6).toNat = v86_5 := by
              rw [q]
              exact addC_p
            obtain ⟨P, tk⟩ : ∃ P, Toks (s0 1) a1.toNat (g50 4) (g50 5) (g50 6) P (g 2 6).toNat := by
              by_cases w : v86_7 = 1
              · exact hs.s_bad (by omega) (by rw [← h6, ← h7, w]) hr fo fk (fv.trans (by omega)) (fp.trans (by omega))
              · have hr3 : run v86_3 := by
                  rcases hr with z | z
                  · exact absurd z (by omega)
                  · exact z
                exact hs.s_adj (by omega) (by rw [← h6, ← h7]; unfold run; omega) hr3 (by rw [← h6, ← h7]; omega) fo fk (fv.trans (by omega)) (fp.trans (by omega))
            exact ⟨(g 2 6).toNat, P, by omega, tk⟩
        · skip
          refine ⟨_, ?_, rfl, hL, hc, hp, ⟨v86_3, v86_4, hr, hs, ?_⟩, hpl, h6, h7, by omega⟩
          · omega
          · rcases h8 with ⟨a, b, c⟩ | ⟨a, b⟩
            · exact Or.inl ⟨a, b, by omega⟩
            · exact Or.inr ⟨a, b⟩
      · skip
        refine ⟨_, ?_, rfl, hL, hc, hp, ⟨v86_3, v86_4, hr, hs, ?_⟩, hpl, h6, h7, by omega⟩
        · omega
        · rcases h8 with ⟨a, b, c⟩ | ⟨a, b⟩
          · exact Or.inl ⟨a, b, by omega⟩
          · exact Or.inr ⟨a, b⟩
    · skip
      refine ⟨fun g' => g' = addC g 1 v86_5 v86_5, ?_, ?_⟩
      · skip
        exact v_1285 (by omega)
      · skip
        intro g57 rg57 qg57
        have q : g57 = addC g 1 v86_5 v86_5 := qg57
        have e6 : g57 2 6 = g 2 6 + 1 := by
          rw [q]
          exact addC_c
        have fo : ∀ i, i ≠ (g 2 6).toNat → g57 4 i = g 4 i ∧ g57 5 i = g 5 i ∧ g57 6 i = g 6 i := by
          rw [q]
          exact addC_o
        have fk : g57 4 (g 2 6).toNat = 1 := by
          rw [q]
          exact addC_k
        have fv : g57 5 (g 2 6).toNat = v86_5 := by
          rw [q]
          exact addC_v
        have fp : g57 6 (g 2 6).toNat = v86_5 := by
          rw [q]
          exact addC_p
        obtain ⟨P, tk⟩ : ∃ P, Toks (s0 1) a1.toNat (g57 4) (g57 5) (g57 6) P (g 2 6).toNat := by
          by_cases w : v86_7 = 1
          · exact hs.s_bad (by omega) (by rw [← h6, ← h7, w]) hr fo fk (fv.trans (by omega)) (fp.trans (by omega))
          · have hr3 : run v86_3 := by
              rcases hr with z | z
              · exact absurd z (by omega)
              · exact z
            exact hs.s_adj (by omega) (by rw [← h6, ← h7]; unfold run; omega) hr3 (by rw [← h6, ← h7]; omega) fo fk (fv.trans (by omega)) (fp.trans (by omega))
        exact ⟨(g 2 6).toNat, P, by omega, tk⟩
  · intro n g v111_2 v111_4 v111_5 v111_6 v111_7 v111_8 rg qv111_20 qv111_21 qv111_40 qv111_41 qv111_50 qv111_51 qv111_60 qv111_61 qv111_70 qv111_71 qv111_80 qv111_81 hI
    obtain ⟨hn, hL, hc, hp, ⟨r, z, hr, hs, h8⟩, hpl, h6, h7, hn1⟩ := hI
    have hcp := hs.1
    have h8r := h8
    unfold run at h8r
    refine ⟨fun h59 => ?_, fun h59 => ?_⟩
    · skip
      refine ⟨fun h60 => ?_, fun h60 => ?_⟩
      · skip
        refine ⟨fun h61 => ?_, fun h61 => ?_⟩
        · skip
          refine ⟨fun g' => g' = addC g v111_7 v111_6 v111_5, ?_, ?_⟩
          · skip
            exact v_1285 (by omega)
          · skip
            intro g67 rg67 qg67
            refine ⟨fun h69 => ?_, fun h69 => ?_⟩
            · skip
              intro x70 ex70
              have q : g67 = addC g v111_7 v111_6 v111_5 := qg67
              have e6 : g67 2 6 = g 2 6 + 1 := by
                rw [q]
                exact addC_c
              have c0 : (g67 2 6).toNat = (g 2 6).toNat + 1 := by omega
              have fo : ∀ i, i ≠ (g 2 6).toNat → g67 4 i = g 4 i ∧ g67 5 i = g 5 i ∧ g67 6 i = g 6 i := by
                rw [q]
                exact addC_o
              have fk : g67 4 (g 2 6).toNat = v111_7 := by
                rw [q]
                exact addC_k
              have fv : g67 5 (g 2 6).toNat = v111_6 := by
                rw [q]
                exact addC_v
              have fp : g67 6 (g 2 6).toNat = (v111_5.toNat : Int) := by
                rw [q]
                exact addC_p.trans (by omega)
              exfalso
              omega
            · skip
              intro x72 ex72
              have q : g67 = addC g v111_7 v111_6 v111_5 := qg67
              have e6 : g67 2 6 = g 2 6 + 1 := by
                rw [q]
                exact addC_c
              have c0 : (g67 2 6).toNat = (g 2 6).toNat + 1 := by omega
              have fo : ∀ i, i ≠ (g 2 6).toNat → g67 4 i = g 4 i ∧ g67 5 i = g 5 i ∧ g67 6 i = g 6 i := by
                rw [q]
                exact addC_o
              have fk : g67 4 (g 2 6).toNat = v111_7 := by
                rw [q]
                exact addC_k
              have fv : g67 5 (g 2 6).toNat = v111_6 := by
                rw [q]
                exact addC_v
              have fp : g67 6 (g 2 6).toNat = (v111_5.toNat : Int) := by
                rw [q]
                exact addC_p.trans (by omega)
              have hk5 : v111_7 = 5 := by
                have := kof_set v111_6
                omega
              refine ⟨_, ?_, rfl, hL, by omega, by omega, Or.inl rfl, ?_⟩
              · omega
              · rw [c0, show x72.toNat = v111_5.toNat + 1 by omega]
                exact hs.s_sign (by omega) (by rw [← h6, ← h7, hk5]) hr fo (fk.trans hk5) (fv.trans (by omega)) fp
        · skip
          intro x74 ex74
          refine ⟨fun g' => g' = addC g v111_7 x74 v111_5, ?_, ?_⟩
          · skip
            exact v_1285 (by omega)
          · skip
            intro g81 rg81 qg81
            refine ⟨fun h83 => ?_, fun h83 => ?_⟩
            · skip
              intro x84 ex84
              have q : g81 = addC g v111_7 x74 v111_5 := qg81
              have e6 : g81 2 6 = g 2 6 + 1 := by
                rw [q]
                exact addC_c
              have c0 : (g81 2 6).toNat = (g 2 6).toNat + 1 := by omega
              have fo : ∀ i, i ≠ (g 2 6).toNat → g81 4 i = g 4 i ∧ g81 5 i = g 5 i ∧ g81 6 i = g 6 i := by
                rw [q]
                exact addC_o
              have fk : g81 4 (g 2 6).toNat = v111_7 := by
                rw [q]
                exact addC_k
              have fv : g81 5 (g 2 6).toNat = x74 := by
                rw [q]
                exact addC_v
              have fp : g81 6 (g 2 6).toNat = (v111_5.toNat : Int) := by
                rw [q]
                exact addC_p.trans (by omega)
              have hr0 : r = 0 := by omega
              subst hr0
              refine ⟨_, ?_, rfl, hL, by omega, by omega, Or.inr (by unfold run; omega), ?_⟩
              · omega
              · rw [c0, show x84.toNat = v111_5.toNat + 1 by omega]
                exact hs.s_new (by omega) (by unfold run; omega) (by rw [← h6, ← h7]) fo fk (fv.trans (by split <;> omega)) fp
            · skip
              intro x86 ex86
              have q : g81 = addC g v111_7 x74 v111_5 := qg81
              have e6 : g81 2 6 = g 2 6 + 1 := by
                rw [q]
                exact addC_c
              have c0 : (g81 2 6).toNat = (g 2 6).toNat + 1 := by omega
              have fo : ∀ i, i ≠ (g 2 6).toNat → g81 4 i = g 4 i ∧ g81 5 i = g 5 i ∧ g81 6 i = g 6 i := by
                rw [q]
                exact addC_o
              have fk : g81 4 (g 2 6).toNat = v111_7 := by
                rw [q]
                exact addC_k
              have fv : g81 5 (g 2 6).toNat = x74 := by
                rw [q]
                exact addC_v
              have fp : g81 6 (g 2 6).toNat = (v111_5.toNat : Int) := by
                rw [q]
                exact addC_p.trans (by omega)
              exfalso
              omega
      · skip
        intro x88 ex88
        intro x90 ex90
        refine ⟨fun g' => g' = addC g v111_7 x90 v111_5, ?_, ?_⟩
        · skip
          exact v_1285 (by omega)
        · skip
          intro g97 rg97 qg97
          refine ⟨fun h99 => ?_, fun h99 => ?_⟩
          · skip
            intro x100 ex100
            have q : g97 = addC g v111_7 x90 v111_5 := qg97
            have e6 : g97 2 6 = g 2 6 + 1 := by
              rw [q]
              exact addC_c
            have c0 : (g97 2 6).toNat = (g 2 6).toNat + 1 := by omega
            have fo : ∀ i, i ≠ (g 2 6).toNat → g97 4 i = g 4 i ∧ g97 5 i = g 5 i ∧ g97 6 i = g 6 i := by
              rw [q]
              exact addC_o
            have fk : g97 4 (g 2 6).toNat = v111_7 := by
              rw [q]
              exact addC_k
            have fv : g97 5 (g 2 6).toNat = x90 := by
              rw [q]
              exact addC_v
            have fp : g97 6 (g 2 6).toNat = (v111_5.toNat : Int) := by
              rw [q]
              exact addC_p.trans (by omega)
            have hr0 : r = 0 := by omega
            subst hr0
            refine ⟨_, ?_, rfl, hL, by omega, by omega, Or.inr (by unfold run; omega), ?_⟩
            · omega
            · rw [c0, show x100.toNat = v111_5.toNat + 1 by omega]
              exact hs.s_new (by omega) (by unfold run; omega) (by rw [← h6, ← h7]) fo fk (fv.trans (by split <;> omega)) fp
          · skip
            intro x102 ex102
            have q : g97 = addC g v111_7 x90 v111_5 := qg97
            have e6 : g97 2 6 = g 2 6 + 1 := by
              rw [q]
              exact addC_c
            have c0 : (g97 2 6).toNat = (g 2 6).toNat + 1 := by omega
            have fo : ∀ i, i ≠ (g 2 6).toNat → g97 4 i = g 4 i ∧ g97 5 i = g 5 i ∧ g97 6 i = g 6 i := by
              rw [q]
              exact addC_o
            have fk : g97 4 (g 2 6).toNat = v111_7 := by
              rw [q]
              exact addC_k
            have fv : g97 5 (g 2 6).toNat = x90 := by
              rw [q]
              exact addC_v
            have fp : g97 6 (g 2 6).toNat = (v111_5.toNat : Int) := by
              rw [q]
              exact addC_p.trans (by omega)
            exfalso
            omega
    · skip
      refine ⟨fun h104 => ?_, fun h104 => ?_⟩
      · skip
        intro x105 ex105
        exfalso
        omega
      · skip
        intro x107 ex107
        refine ⟨_, ?_, rfl, hL, hc, by omega, Or.inl rfl, ?_⟩
        · omega
        · rw [show x107.toNat = v111_5.toNat + 1 by omega]
          exact hs.s_blank (by omega) (by rw [← h6, ← h7]; omega) hr
