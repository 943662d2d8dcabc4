/-! pure proofs (wip/safe/vcp.py) -/
set_option maxHeartbeats 4000000 in
theorem v_2429 {s0 : zF} {a0 : Int} (h0 : 0 ≤ a0) : b_2429 s0 a0 (fun v g => g = s0 ∧ (v = 1 → IB s0 a0.toNat)) := by
  refine ⟨fun n g v129_1 v129_2 v129_3 v129_4 => n = 871 ∧ IB s0 a0.toNat, fun n g v140_1 v140_2 v140_3 v140_4 => n = 860 ∧ IB s0 a0.toNat, fun n g v159_1 v159_3 v159_4 => n = 841 ∧ IB s0 a0.toNat, fun n g v172_1 => n = 828 ∧ IB s0 a0.toNat, ?_, ?_, ?_, ?_, ?_⟩
  · skip
    intro x46 ex46 fx46 gx46
    intro x47 ex47
    intro x52 ex52 fx52 gx52
    intro x53 ex53
    intro x55 ex55
    intro x60 ex60 fx60 gx60
    intro x61 ex61
    intro x63 ex63 fx63 gx63
    intro x70 ex70 fx70 gx70
    refine ⟨fun h71 => ?_, fun h71 => ?_⟩
    · skip
      intro x72 ex72
      intro x77 ex77 fx77 gx77
      refine ⟨fun h78 => ?_, fun h78 => ?_⟩
      · skip
        exact ⟨rfl, fun z => absurd z (by decide)⟩
      · skip
        intro x82 ex82 fx82 gx82
        refine ⟨fun h83 => ?_, fun h83 => ?_⟩
        · skip
          refine ⟨fun h87 => ?_, fun h87 => ?_⟩
          · skip
            refine ⟨fun h88 => ?_, fun h88 => ?_⟩
            · skip
              intro x89 ex89
              intro x94 ex94 fx94 gx94
              intro x95 ex95
              intro x97 ex97
              intro x102 ex102
              refine ⟨fun h103 => ?_, fun h103 => ?_⟩
              · skip
                exact ⟨rfl, fun z => absurd z (by decide)⟩
              · skip
                refine ⟨fun h104 => ?_, fun h104 => ?_⟩
                · skip
                  exact ⟨rfl, fun z => absurd z (by decide)⟩
                · skip
                  refine ⟨871, rfl, ?_, ?_, ?_⟩
                  · rw [← ex46, ← ex63, ← ex70]
                    omega
                  · rw [show a0.toNat + 2 = x47.toNat by omega, ← ex52]
                    omega
                  · rw [show a0.toNat + 4 = x55.toNat by omega, ← ex60]
                    omega
            · skip
              intro x105 ex105
              intro x110 ex110 fx110 gx110
              refine ⟨fun h111 => ?_, fun h111 => ?_⟩
              · skip
                exact ⟨rfl, fun z => absurd z (by decide)⟩
              · skip
                refine ⟨871, rfl, ?_, ?_, ?_⟩
                · rw [← ex46, ← ex63, ← ex70]
                  omega
                · rw [show a0.toNat + 2 = x47.toNat by omega, ← ex52]
                  omega
                · rw [show a0.toNat + 4 = x55.toNat by omega, ← ex60]
                  omega
          · skip
            exact ⟨rfl, fun z => absurd z (by decide)⟩
        · skip
          exact ⟨rfl, fun z => absurd z (by decide)⟩
    · skip
      exact ⟨rfl, fun z => absurd z (by decide)⟩
  · intro n g v129_1 v129_2 v129_3 v129_4 rg qv129_10 qv129_11 qv129_20 qv129_21 qv129_30 qv129_31 qv129_40 qv129_41 hI
    obtain ⟨hn, hi⟩ := hI
    have hg := zFr_nil rg
    refine ⟨fun h1 => ?_, fun h1 => ?_⟩
    · skip
      exact ⟨860, by omega, rfl, hi⟩
    · skip
      refine ⟨fun h2 => ?_, fun h2 => ?_⟩
      · skip
        exact ⟨860, by omega, rfl, hi⟩
      · skip
        exact ⟨841, by omega, rfl, hi⟩
  · intro n g v140_1 v140_2 v140_3 v140_4 rg qv140_10 qv140_11 qv140_20 qv140_21 qv140_30 qv140_31 qv140_40 qv140_41 hI
    obtain ⟨hn, hi⟩ := hI
    have hg := zFr_nil rg
    intro x3 ex3
    intro x8 ex8 fx8 gx8
    refine ⟨fun h9 => ?_, fun h9 => ?_⟩
    · skip
      intro x10 ex10 fx10 gx10
      intro x14 ex14
      intro x16 ex16
      intro x21 ex21 fx21 gx21
      intro x22 ex22 fx22
      refine ⟨fun h25 => ?_, fun h25 => ?_⟩
      · skip
        exact ⟨hg, fun z => absurd z (by decide)⟩
      · skip
        exact ⟨841, by omega, rfl, hi⟩
    · skip
      exact ⟨hg, fun z => absurd z (by decide)⟩
  · intro n g v159_1 v159_3 v159_4 rg qv159_10 qv159_11 qv159_30 qv159_31 qv159_40 qv159_41 hI
    obtain ⟨hn, hi⟩ := hI
    have hg := zFr_nil rg
    refine ⟨fun h26 => ?_, fun h26 => ?_⟩
    · skip
      refine ⟨fun h27 => ?_, fun h27 => ?_⟩
      · skip
        exact ⟨hg, fun z => absurd z (by decide)⟩
      · skip
        exact ⟨828, by omega, rfl, hi⟩
    · skip
      exact ⟨828, by omega, rfl, hi⟩
  · intro n g v172_1 rg qv172_10 qv172_11 hI
    obtain ⟨hn, hi⟩ := hI
    have hg := zFr_nil rg
    intro x28 ex28
    intro x33 ex33 fx33 gx33
    intro x34 
    intro x35 ex35
    intro x40 ex40 fx40 gx40
    intro x41 
    refine ⟨fun h42 => ?_, fun h42 => ?_⟩
    · skip
      exact ⟨hg, fun z => absurd z (by decide)⟩
    · skip
      exact ⟨hg, fun _ => hi⟩
