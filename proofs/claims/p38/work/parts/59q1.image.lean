/-! pure proofs (wip/safe/vcp.py) -/
set_option maxHeartbeats 4000000 in
theorem v_2427 {s0 : zF} {a0 : Int} : b_2427 s0 a0 (fun v g => g = s0 ∧ (v = 1 → IMG s0)) := by
  refine ⟨fun n g v27_1 v27_2 v27_3 => n = (100000 - v27_3).toNat, fun n g v93_3 => n = (50 * (20 - v93_3) + 1000).toNat ∧ (∀ p : Nat, (p : Int) < v93_3 → IB s0 (2 + 7 * p)) ∧ (∀ p q : Nat, q < p → (p : Int) < v93_3 → s0 387 (2 + 7 * q) ≠ s0 387 (2 + 7 * p)), fun n g v119_3 v119_4 => n = (50 * (20 - v119_3) + 990 - v119_4).toNat ∧ v119_3 < s0 388 (s0 386 12).toNat ∧ (∀ p : Nat, (p : Int) < v119_3 → IB s0 (2 + 7 * p)) ∧ (∀ p q : Nat, q < p → (p : Int) < v119_3 → s0 387 (2 + 7 * q) ≠ s0 387 (2 + 7 * p)) ∧ IB s0 (2 + 7 * v119_3.toNat) ∧ (∀ q : Nat, (q : Int) < v119_4 → s0 387 (2 + 7 * q) ≠ s0 387 (2 + 7 * v119_3.toNat)) ∧ v119_4 ≤ 12, fun n g v167_3 => n = (900 - v167_3).toNat ∧ IMG s0, ?_, ?_, ?_, ?_, ?_⟩
  · skip
    intro x125 ex125 fx125 gx125
    intro x132 ex132 fx132 gx132
    intro x133 ex133
    intro x135 ex135
    refine ⟨fun _ _ => True, ?_, ?_⟩
    · skip
      exact v_2428
    · skip
      intro x142 hx1421 hx1422 g145 rg145 qg145
      intro x147 ex147
      intro x149 ex149
      refine ⟨fun h151 => ?_, fun h151 => ?_⟩
      · skip
        have hg1 : g145 = s0 := (zFr_nil rg145)
        exact ⟨hg1, fun z => absurd z (by decide)⟩
      · skip
        exact ⟨_, rfl⟩
  · intro n g v27_1 v27_2 v27_3 rg qv27_10 qv27_11 qv27_20 qv27_21 qv27_30 qv27_31 hI
    have hn := hI
    have hg := zFr_nil rg
    intro x1 ex1
    refine ⟨fun h3 => ?_, fun h3 => ?_⟩
    · skip
      intro x4 ex4
      intro x9 ex9 fx9 gx9
      intro x10 ex10
      intro x12 ex12 fx12 gx12
      intro x16 ex16
      exact ⟨_, by omega, rfl⟩
    · skip
      intro x18 ex18
      intro x23 ex23 fx23 gx23
      refine ⟨fun h24 => ?_, fun h24 => ?_⟩
      · skip
        exact ⟨hg, fun z => absurd z (by decide)⟩
      · skip
        intro x28 ex28 fx28 gx28
        intro x30 ex30
        intro x34 ex34 fx34 gx34
        intro x36 ex36
        refine ⟨fun h37 => ?_, fun h37 => ?_⟩
        · skip
          exact ⟨hg, fun z => absurd z (by decide)⟩
        · skip
          exact ⟨_, by omega, rfl, fun p hp => by omega, fun p q h1 h2 => by omega⟩
  · intro n g v93_3 rg qv93_30 qv93_31 hI
    obtain ⟨hn, p1, p2⟩ := hI
    have hg := zFr_nil rg
    intro x38 ex38 fx38 gx38
    intro x45 ex45 fx45 gx45
    refine ⟨fun h46 => ?_, fun h46 => ?_⟩
    · skip
      intro x47 ex47
      intro x49 ex49
      refine ⟨fun v g' => g' = g ∧ (v = 1 → IB g (x49 : Int).toNat), ?_, ?_⟩
      · skip
        exact v_2429 (by omega)
      · skip
        intro x56 hx561 hx562 g59 rg59 qg59
        refine ⟨fun h61 => ?_, fun h61 => ?_⟩
        · skip
          have eN : x45 = s0 388 (s0 386 12).toNat := by
            rw [ex45, ex38, hg]
          obtain ⟨q1, q2⟩ := (qg59 : g59 = g ∧ _)
          have q3 := q2 (by omega)
          rw [hg, show x49.toNat = 2 + 7 * v93_3.toNat by omega] at q3
          exact ⟨_, by omega, rfl, by omega, p1, p2, q3, fun q hq => by omega, by decide⟩
        · skip
          have hg1 : g59 = s0 := (qg59 : g59 = g ∧ _).1.trans hg
          exact ⟨hg1, fun z => absurd z (by decide)⟩
    · skip
      have eN : x45 = s0 388 (s0 386 12).toNat := by
        rw [ex45, ex38, hg]
      exact ⟨_, by omega, rfl, fun p hp => p1 p (by omega), fun p q h1 h2 => p2 p q h1 (by omega)⟩
  · intro n g v119_3 v119_4 rg qv119_30 qv119_31 qv119_40 qv119_41 hI
    obtain ⟨hn, hN, p1, p2, p3, p4, p5⟩ := hI
    have hg := zFr_nil rg
    refine ⟨fun h62 => ?_, fun h62 => ?_⟩
    · skip
      intro x63 ex63
      intro x65 ex65
      intro x70 ex70 fx70 gx70
      intro x71 ex71
      intro x73 ex73
      intro x78 ex78 fx78 gx78
      refine ⟨fun h79 => ?_, fun h79 => ?_⟩
      · skip
        intro x80 ex80
        refine ⟨_, ?_, rfl, hN, p1, p2, p3, fun q hq => ?_, by omega⟩
        · omega
        · by_cases z : (q : Int) = v119_4
          · rw [← hg, show 2 + 7 * q = x65.toNat by omega, show 2 + 7 * v119_3.toNat = x73.toNat by omega, ← ex70, ← ex78]
            omega
          · exact p4 q (by omega)
      · skip
        exact ⟨hg, fun z => absurd z (by decide)⟩
    · skip
      intro x82 ex82
      refine ⟨_, ?_, rfl, fun p hp => ?_, fun p q hq hp => ?_⟩
      · omega
      · by_cases z : (p : Int) = v119_3
        · rw [show p = v119_3.toNat by omega]
          exact p3
        · exact p1 p (by omega)
      · by_cases z : (p : Int) = v119_3
        · rw [show p = v119_3.toNat by omega]
          exact p4 q (by omega)
        · exact p2 p q hq (by omega)
  · intro n g v167_3 rg qv167_30 qv167_31 hI
    obtain ⟨hn, hi⟩ := hI
    have hg := zFr_nil rg
    refine ⟨fun _ _ => True, ?_, ?_⟩
    · skip
      exact v_2428
    · skip
      intro x89 hx891 hx892 g92 rg92 qg92
      refine ⟨fun h94 => ?_, fun h94 => ?_⟩
      · skip
        intro x95 ex95 fx95 gx95
        intro x102 ex102 fx102 gx102
        intro x103 ex103
        intro x105 ex105
        intro x107 ex107
        intro x109 ex109
        intro x114 ex114 fx114 gx114
        refine ⟨fun h115 => ?_, fun h115 => ?_⟩
        · skip
          have hg1 : g92 = s0 := (zFr_nil rg92).trans hg
          exact ⟨hg1, fun z => absurd z (by decide)⟩
        · skip
          intro x116 ex116
          intro x121 ex121 fx121 gx121
          refine ⟨fun h122 => ?_, fun h122 => ?_⟩
          · skip
            have hg1 : g92 = s0 := (zFr_nil rg92).trans hg
            exact ⟨hg1, fun z => absurd z (by decide)⟩
          · skip
            intro x123 ex123
            exact ⟨_, by omega, rfl, hi⟩
      · skip
        have hg1 : g92 = s0 := (zFr_nil rg92).trans hg
        exact ⟨hg1, fun _ => hi⟩
