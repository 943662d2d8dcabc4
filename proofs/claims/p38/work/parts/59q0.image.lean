/-! pure proofs (wip/safe/vcp.py) -/
set_option maxHeartbeats 4000000 in
theorem v_2428 {s0 : zF} : b_2428 s0 (fun _ _ => True) := by
  unfold b_2428
  intro x1 ex1 fx1 gx1
  intro x8 ex8 fx8 gx8
  refine ⟨fun h9 => ?_, fun h9 => ?_⟩
  · skip
    intro x13 ex13
    trivial
  · skip
    trivial
set_option maxHeartbeats 4000000 in
theorem v_2429 {s0 : zF} {a0 : Int} (h0 : 0 ≤ a0) : b_2429 s0 a0 (fun v g => g = s0 ∧ (v = 1 → IB s0 a0.toNat)) := by
  refine ⟨fun n g v129_1 v129_2 v129_3 v129_4 => n = 871 ∧ IB s0 a0.toNat, fun n g v140_1 v140_2 v140_3 v140_4 => n = 860 ∧ IB s0 a0.toNat, fun n g v159_1 v159_3 v159_4 => n = 841 ∧ IB s0 a0.toNat, fun n g v172_1 => n = 828 ∧ IB s0 a0.toNat, ?_, ?_, ?_, ?_, ?_⟩
  · skip
    intro x49 ex49 fx49 gx49
    intro x50 ex50
    intro x55 ex55 fx55 gx55
    intro x56 ex56
    intro x58 ex58
    intro x63 ex63 fx63 gx63
    intro x64 ex64
    intro x66 ex66 fx66 gx66
    intro x73 ex73 fx73 gx73
    refine ⟨fun h74 => ?_, fun h74 => ?_⟩
    · skip
      intro x75 ex75
      intro x80 ex80 fx80 gx80
      refine ⟨fun h81 => ?_, fun h81 => ?_⟩
      · skip
        exact ⟨rfl, fun z => absurd z (by decide)⟩
      · skip
        intro x85 ex85 fx85 gx85
        refine ⟨fun h86 => ?_, fun h86 => ?_⟩
        · skip
          refine ⟨fun h90 => ?_, fun h90 => ?_⟩
          · skip
            refine ⟨fun h91 => ?_, fun h91 => ?_⟩
            · skip
              intro x92 ex92
              intro x97 ex97 fx97 gx97
              intro x98 ex98
              intro x100 ex100
              intro x105 ex105
              refine ⟨fun h106 => ?_, fun h106 => ?_⟩
              · skip
                exact ⟨rfl, fun z => absurd z (by decide)⟩
              · skip
                refine ⟨fun h107 => ?_, fun h107 => ?_⟩
                · skip
                  exact ⟨rfl, fun z => absurd z (by decide)⟩
                · skip
                  refine ⟨871, rfl, ?_, ?_, ?_⟩
                  · rw [← ex49, ← ex66, ← ex73]
                    omega
                  · rw [show a0.toNat + 2 = x50.toNat by omega, ← ex55]
                    omega
                  · rw [show a0.toNat + 4 = x58.toNat by omega, ← ex63]
                    omega
            · skip
              intro x108 ex108
              intro x113 ex113 fx113 gx113
              refine ⟨fun h114 => ?_, fun h114 => ?_⟩
              · skip
                exact ⟨rfl, fun z => absurd z (by decide)⟩
              · skip
                refine ⟨871, rfl, ?_, ?_, ?_⟩
                · rw [← ex49, ← ex66, ← ex73]
                  omega
                · rw [show a0.toNat + 2 = x50.toNat by omega, ← ex55]
                  omega
                · rw [show a0.toNat + 4 = x58.toNat by omega, ← ex63]
                  omega
          · skip
            exact ⟨rfl, fun z => absurd z (by decide)⟩
        · skip
          exact ⟨rfl, fun z => absurd z (by decide)⟩
    · skip
      exact ⟨rfl, fun z => absurd z (by decide)⟩
  · intro n g v129_1 v129_2 v129_3 v129_4 rg qv129_10 qv129_11 qv129_20 qv129_21 qv129_30 qv129_31 qv129_40 qv129_41 hI
    obtain ⟨hn, hi⟩ := hI
    have hg := zFr_nil rg
    refine ⟨fun h1 => ?_, fun h1 => ?_⟩
    · skip
      exact ⟨860, by omega, rfl, hi⟩
    · skip
      refine ⟨fun h2 => ?_, fun h2 => ?_⟩
      · skip
        exact ⟨860, by omega, rfl, hi⟩
      · skip
        exact ⟨841, by omega, rfl, hi⟩
  · intro n g v140_1 v140_2 v140_3 v140_4 rg qv140_10 qv140_11 qv140_20 qv140_21 qv140_30 qv140_31 qv140_40 qv140_41 hI
    obtain ⟨hn, hi⟩ := hI
    have hg := zFr_nil rg
    intro x3 ex3
    intro x8 ex8 fx8 gx8
    refine ⟨fun h9 => ?_, fun h9 => ?_⟩
    · skip
      intro x10 ex10 fx10 gx10
      intro x14 ex14
      intro x16 ex16
      intro x21 ex21 fx21 gx21
      intro x23 ex23 fx23 gx23
      refine ⟨fun h26 => ?_, fun h26 => ?_⟩
      · skip
        exact ⟨hg, fun z => absurd z (by decide)⟩
      · skip
        exact ⟨841, by omega, rfl, hi⟩
    · skip
      exact ⟨hg, fun z => absurd z (by decide)⟩
  · intro n g v159_1 v159_3 v159_4 rg qv159_10 qv159_11 qv159_30 qv159_31 qv159_40 qv159_41 hI
    obtain ⟨hn, hi⟩ := hI
    have hg := zFr_nil rg
    refine ⟨fun h27 => ?_, fun h27 => ?_⟩
    · skip
      refine ⟨fun h28 => ?_, fun h28 => ?_⟩
      · skip
        exact ⟨hg, fun z => absurd z (by decide)⟩
      · skip
        exact ⟨828, by omega, rfl, hi⟩
    · skip
      exact ⟨828, by omega, rfl, hi⟩
  · intro n g v172_1 rg qv172_10 qv172_11 hI
    obtain ⟨hn, hi⟩ := hI
    have hg := zFr_nil rg
    intro x29 ex29
    intro x34 ex34 fx34 gx34
    intro x36 ex36
    intro x37 ex37
    intro x42 ex42 fx42 gx42
    intro x44 ex44
    refine ⟨fun h45 => ?_, fun h45 => ?_⟩
    · skip
      exact ⟨hg, fun z => absurd z (by decide)⟩
    · skip
      exact ⟨hg, fun _ => hi⟩
