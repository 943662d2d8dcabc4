/-! pure proofs (wip/safe/vcp.py) -/
set_option maxHeartbeats 4000000 in
theorem v_2403 {s0 : zF} (hd : Dst (s0 434) (s0 386 70)) (hr : Rg (s0 434) (s0 386 70)) (hN : s0 386 70 ≤ 12) : b_2403 s0 (fun v g => Dst (g 434) (s0 386 70) ∧ Rg (g 434) (s0 386 70) ∧ (v = 1 → vl (s0 434) (s0 386 70).toNat < vl (g 434) (s0 386 70).toNat)) := by
  refine ⟨fun n g v7_1 => n = (100 + v7_1).toNat ∧ g 434 = s0 434 ∧ -2 ≤ v7_1 ∧ v7_1 ≤ s0 386 70 - 2, fun n g v47_1 v47_2 => n = (60 + v47_2).toNat ∧ g 434 = s0 434 ∧ 0 ≤ v47_1 ∧ v47_1 + 1 ≤ v47_2 ∧ v47_2 ≤ s0 386 70 - 1 ∧ s0 434 v47_1.toNat ≤ s0 434 (v47_1 + 1).toNat, fun n g v86_3 v86_4 => n = (30 + v86_4 - v86_3).toNat ∧ Dst (g 434) (s0 386 70) ∧ Rg (g 434) (s0 386 70) ∧ v86_4 ≤ s0 386 70 - 1 ∧ ∃ k : Nat, Grw (s0 434) (g 434) (s0 386 70) k ∧ (k : Int) < v86_3, ?_, ?_, ?_, ?_⟩
  · skip
    intro x60 ex60 fx60 gx60
    intro x64 ex64
    exact ⟨_, rfl, rfl, by omega, by omega⟩
  · intro n g v7_1 rg qv7_10 qv7_11 hI
    obtain ⟨hn, hg, hv, hv2⟩ := hI
    have e70 : g 386 70 = s0 386 70 := rg.s (by decide)
    refine ⟨fun h1 => ?_, fun h1 => ?_⟩
    · skip
      exact ⟨by rw [hg]; exact hd, by rw [hg]; exact hr, fun z => absurd z (by decide)⟩
    · skip
      intro x5 ex5 fx5 gx5
      intro x6 ex6
      intro x11 ex11 fx11 gx11
      refine ⟨fun h12 => ?_, fun h12 => ?_⟩
      · skip
        intro x13 ex13
        exact ⟨_, by omega, rfl, hg, by omega, by omega⟩
      · skip
        intro x15 ex15 fx15 gx15
        intro x19 ex19
        refine ⟨_, ?_, rfl, hg, by omega, by omega, by omega, ?_⟩
        · omega
        · rw [← hg, show v7_1 + 1 = x6 by omega, ← ex5, ← ex11]
          omega
  · intro n g v47_1 v47_2 rg qv47_10 qv47_11 qv47_20 qv47_21 hI
    obtain ⟨hn, hg, hv, hv2, hv3, hv4⟩ := hI
    have e70 : g 386 70 = s0 386 70 := rg.s (by decide)
    have oh21 : (0 ≤ v47_2) := by
      omega
    refine ⟨oh21, ?_⟩
    intro x25 ex25 fx25 gx25
    intro x29 ex29 fx29 gx29
    refine ⟨fun h30 => ?_, fun h30 => ?_⟩
    · skip
      intro x31 ex31
      refine ⟨_, ?_, rfl, hg, hv, ?_, by omega, hv4⟩
      · omega
      · by_cases z : v47_1 + 1 = v47_2
        · exfalso
          rw [z, ← hg, ← ex29, ← ex25] at hv4
          omega
        · omega
    · skip
      refine ⟨fun g' => g' 434 = zup1 (zup1 (g 434) (v47_1 : Int).toNat (g 434 (v47_2 : Int).toNat)) (v47_2 : Int).toNat (g 434 (v47_1 : Int).toNat), ?_, ?_⟩
      · skip
        exact v_2404
      · skip
        intro g38 rg38 qg38
        intro x40 ex40
        intro x42 ex42 fx42 gx42
        intro x46 ex46
        have c : g38 434 = _ := qg38
        rw [hg] at c
        have c70 : g38 386 70 = g 386 70 := rg38.s (by decide)
        refine ⟨_, ?_, rfl, ?_, ?_, by omega, v47_1.toNat, ⟨fun p hp => ?_, ?_, by omega⟩, by omega⟩
        · omega
        · rw [c]
          exact hd.swap (p := v47_1) (q := v47_2) (by omega) (by omega)
        · rw [c]
          exact hr.swap (p := v47_1) (q := v47_2) (by omega) (by omega)
        · rw [c, zup1_ne (by omega), zup1_ne (by omega)]
        · rw [c, zup1_ne (by omega), zup1_eq]
          have hne := hd.ne (p := v47_1.toNat) (q := v47_2.toNat) (by omega) (by omega) (by omega)
          rw [hg] at ex25 ex29
          omega
  · intro n g v86_3 v86_4 rg qv86_30 qv86_31 qv86_40 qv86_41 hI
    obtain ⟨hn, hd2, hr2, hv, k, hk, hk2⟩ := hI
    refine ⟨fun h48 => ?_, fun h48 => ?_⟩
    · skip
      refine ⟨fun g' => g' 434 = zup1 (zup1 (g 434) (v86_3 : Int).toNat (g 434 (v86_4 : Int).toNat)) (v86_4 : Int).toNat (g 434 (v86_3 : Int).toNat), ?_, ?_⟩
      · skip
        exact v_2404
      · skip
        intro g54 rg54 qg54
        intro x56 ex56
        intro x58 ex58
        have c : g54 434 = _ := qg54
        refine ⟨_, ?_, rfl, ?_, ?_, by omega, k, hk.swap (by omega) (by omega) c, by omega⟩
        · omega
        · rw [c]
          exact hd2.swap (p := v86_3) (q := v86_4) (by omega) (by omega)
        · rw [c]
          exact hr2.swap (p := v86_3) (q := v86_4) (by omega) (by omega)
    · skip
      exact ⟨hd2, hr2, fun _ => hk.vl hr hr2⟩
