/-! pure proofs of the class (wip/safe/gen35.py) -/
set_option maxHeartbeats 4000000 in
theorem v_2092 {s0 : zF} {a0 : Int} : b_2092 s0 a0 (fun v g => g = s0 ∧ v = s0 1 a0.toNat) := by
  unfold b_2092
  intro x4 ex4 fx4 gx4
  exact ⟨rfl, ex4⟩
set_option maxHeartbeats 4000000 in
theorem v_2091 {s0 : zF} {a0 : Int} (h0 : 0 ≤ a0) (h1 : a0 ≤ 88) : b_2091 s0 a0 (fun _ g => g = s0) := by
  unfold b_2091
  refine ⟨fun v g' => g' = s0 ∧ v = s0 1 (a0 : Int).toNat, ?_, ?_⟩
  · skip
    exact v_2092
  · skip
    intro x6 hx61 hx62 g9 rg9 qg9
    intro x11 ex11
    intro x13 ex13
    refine ⟨fun v g' => g' = g9 ∧ v = g9 1 (x13 : Int).toNat, ?_, ?_⟩
    · skip
      exact v_2092
    · skip
      intro x20 hx201 hx202 g23 rg23 qg23
      intro x25 ex25
      exact ((qg23 : g23 = g9 ∧ _).1).trans (qg9 : g9 = s0 ∧ _).1
set_option maxHeartbeats 4000000 in
theorem v_2112 {s0 : zF} {a0 a1 : Int} (h0 : 0 ≤ a0) (h1 : a0 ≤ 11) (h2 : 0 ≤ a1) (h3 : a1 ≤ 79) : b_2112 s0 a0 a1 (fun v g => g = s0 ∧ (v = 1 → s0 1 (a1 + 2).toNat ≤ 6 ∧ s0 1 (a1 + 4).toNat ≤ 6)) := by
  refine ⟨fun n g v120_1 v120_3 v120_4 v120_6 => n = 3 ∧ s0 1 (a1 + 2).toNat ≤ 6 ∧ s0 1 (a1 + 4).toNat ≤ 6, fun n g v134_1 v134_3 v134_4 v134_6 => n = 2 ∧ s0 1 (a1 + 2).toNat ≤ 6 ∧ s0 1 (a1 + 4).toNat ≤ 6, fun n g v150_1 v150_3 => n = 1 ∧ s0 1 (a1 + 2).toNat ≤ 6 ∧ s0 1 (a1 + 4).toNat ≤ 6, ?_, ?_, ?_, ?_⟩
  · skip
    intro x19 ex19
    refine ⟨fun v g' => g' = s0 ∧ v = s0 1 (x19 : Int).toNat, ?_, ?_⟩
    · skip
      exact v_2092
    · skip
      intro x26 hx261 hx262 g29 rg29 qg29
      intro x31 ex31
      refine ⟨fun v g' => g' = g29 ∧ v = g29 1 (x31 : Int).toNat, ?_, ?_⟩
      · skip
        exact v_2092
      · skip
        intro x38 hx381 hx382 g41 rg41 qg41
        intro x43 ex43
        intro x45 ex45
        refine ⟨fun v g' => g' = g41 ∧ v = g41 1 (x45 : Int).toNat, ?_, ?_⟩
        · skip
          exact v_2092
        · skip
          intro x52 hx521 hx522 g55 rg55 qg55
          intro x57 ex57
          refine ⟨fun v g' => g' = g55 ∧ v = g55 1 (x57 : Int).toNat, ?_, ?_⟩
          · skip
            exact v_2092
          · skip
            intro x64 hx641 hx642 g67 rg67 qg67
            intro x69 ex69
            refine ⟨fun h71 => ?_, fun h71 => ?_⟩
            · skip
              have E1 : g29 = s0 := (qg29 : g29 = s0 ∧ _).1.trans rfl
              have E2 : g41 = s0 := (qg41 : g41 = g29 ∧ _).1.trans E1
              have E3 : g55 = s0 := (qg55 : g55 = g41 ∧ _).1.trans E2
              have E4 : g67 = s0 := (qg67 : g67 = g55 ∧ _).1.trans E3
              exact ⟨E4, fun z => absurd z (by decide)⟩
            · skip
              intro b72 eb72 fb72
              intro x76 ex76 fx76 gx76
              refine ⟨fun h80 => ?_, fun h80 => ?_⟩
              · skip
                refine ⟨fun h81 => ?_, fun h81 => ?_⟩
                · skip
                  intro x82 ex82
                  refine ⟨fun _ g' => g' = g67, ?_, ?_⟩
                  · skip
                    exact v_2091 (by omega) (by omega)
                  · skip
                    intro x89 hx891 hx892 g92 rg92 qg92
                    refine ⟨fun h94 => ?_, fun h94 => ?_⟩
                    · skip
                      have E1 : g29 = s0 := (qg29 : g29 = s0 ∧ _).1.trans rfl
                      have E2 : g41 = s0 := (qg41 : g41 = g29 ∧ _).1.trans E1
                      have E3 : g55 = s0 := (qg55 : g55 = g41 ∧ _).1.trans E2
                      have E4 : g67 = s0 := (qg67 : g67 = g55 ∧ _).1.trans E3
                      have E5 : g92 = s0 := (qg92 : g92 = g67).trans E4
                      exact ⟨E5, fun z => absurd z (by decide)⟩
                    · skip
                      refine ⟨fun h95 => ?_, fun h95 => ?_⟩
                      · skip
                        refine ⟨fun h96 => ?_, fun h96 => ?_⟩
                        · skip
                          have E1 : g29 = s0 := (qg29 : g29 = s0 ∧ _).1.trans rfl
                          have E2 : g41 = s0 := (qg41 : g41 = g29 ∧ _).1.trans E1
                          have E3 : g55 = s0 := (qg55 : g55 = g41 ∧ _).1.trans E2
                          have E4 : g67 = s0 := (qg67 : g67 = g55 ∧ _).1.trans E3
                          have E5 : g92 = s0 := (qg92 : g92 = g67).trans E4
                          exact ⟨E5, fun z => absurd z (by decide)⟩
                        · skip
                          intro x101 ex101
                          refine ⟨fun h102 => ?_, fun h102 => ?_⟩
                          · skip
                            have E1 : g29 = s0 := (qg29 : g29 = s0 ∧ _).1.trans rfl
                            have E2 : g41 = s0 := (qg41 : g41 = g29 ∧ _).1.trans E1
                            have E3 : g55 = s0 := (qg55 : g55 = g41 ∧ _).1.trans E2
                            have E4 : g67 = s0 := (qg67 : g67 = g55 ∧ _).1.trans E3
                            have E5 : g92 = s0 := (qg92 : g92 = g67).trans E4
                            exact ⟨E5, fun z => absurd z (by decide)⟩
                          · skip
                            have E1 : g29 = s0 := (qg29 : g29 = s0 ∧ _).1.trans rfl
                            have E2 : g41 = s0 := (qg41 : g41 = g29 ∧ _).1.trans E1
                            have E3 : g55 = s0 := (qg55 : g55 = g41 ∧ _).1.trans E2
                            have E4 : g67 = s0 := (qg67 : g67 = g55 ∧ _).1.trans E3
                            have E5 : g92 = s0 := (qg92 : g92 = g67).trans E4
                            have w1 : x38 = g29 1 (x31 : Int).toNat := (qg41 : _ ∧ x38 = _).2
                            have w2 : x64 = g55 1 (x57 : Int).toNat := (qg67 : _ ∧ x64 = _).2
                            rw [E1, show x31 = a1 + 2 by omega] at w1
                            rw [E3, show x57 = a1 + 4 by omega] at w2
                            exact ⟨_, rfl, by omega, by omega⟩
                      · skip
                        refine ⟨fun h103 => ?_, fun h103 => ?_⟩
                        · skip
                          have E1 : g29 = s0 := (qg29 : g29 = s0 ∧ _).1.trans rfl
                          have E2 : g41 = s0 := (qg41 : g41 = g29 ∧ _).1.trans E1
                          have E3 : g55 = s0 := (qg55 : g55 = g41 ∧ _).1.trans E2
                          have E4 : g67 = s0 := (qg67 : g67 = g55 ∧ _).1.trans E3
                          have E5 : g92 = s0 := (qg92 : g92 = g67).trans E4
                          exact ⟨E5, fun z => absurd z (by decide)⟩
                        · skip
                          have E1 : g29 = s0 := (qg29 : g29 = s0 ∧ _).1.trans rfl
                          have E2 : g41 = s0 := (qg41 : g41 = g29 ∧ _).1.trans E1
                          have E3 : g55 = s0 := (qg55 : g55 = g41 ∧ _).1.trans E2
                          have E4 : g67 = s0 := (qg67 : g67 = g55 ∧ _).1.trans E3
                          have E5 : g92 = s0 := (qg92 : g92 = g67).trans E4
                          have w1 : x38 = g29 1 (x31 : Int).toNat := (qg41 : _ ∧ x38 = _).2
                          have w2 : x64 = g55 1 (x57 : Int).toNat := (qg67 : _ ∧ x64 = _).2
                          rw [E1, show x31 = a1 + 2 by omega] at w1
                          rw [E3, show x57 = a1 + 4 by omega] at w2
                          exact ⟨_, rfl, by omega, by omega⟩
                · skip
                  have E1 : g29 = s0 := (qg29 : g29 = s0 ∧ _).1.trans rfl
                  have E2 : g41 = s0 := (qg41 : g41 = g29 ∧ _).1.trans E1
                  have E3 : g55 = s0 := (qg55 : g55 = g41 ∧ _).1.trans E2
                  have E4 : g67 = s0 := (qg67 : g67 = g55 ∧ _).1.trans E3
                  exact ⟨E4, fun z => absurd z (by decide)⟩
              · skip
                have E1 : g29 = s0 := (qg29 : g29 = s0 ∧ _).1.trans rfl
                have E2 : g41 = s0 := (qg41 : g41 = g29 ∧ _).1.trans E1
                have E3 : g55 = s0 := (qg55 : g55 = g41 ∧ _).1.trans E2
                have E4 : g67 = s0 := (qg67 : g67 = g55 ∧ _).1.trans E3
                exact ⟨E4, fun z => absurd z (by decide)⟩
  · intro n g v120_1 v120_3 v120_4 v120_6 rg qv120_10 qv120_11 qv120_30 qv120_31 qv120_40 qv120_41 qv120_60 qv120_61 hI
    obtain ⟨hn, hi⟩ := hI
    have hg := zFr_nl rg
    refine ⟨fun h1 => ?_, fun h1 => ?_⟩
    · skip
      refine ⟨fun h2 => ?_, fun h2 => ?_⟩
      · skip
        exact ⟨hg, fun z => absurd z (by decide)⟩
      · skip
        exact ⟨_, by omega, rfl, hi⟩
    · skip
      exact ⟨_, by omega, rfl, hi⟩
  · intro n g v134_1 v134_3 v134_4 v134_6 rg qv134_10 qv134_11 qv134_30 qv134_31 qv134_40 qv134_41 qv134_60 qv134_61 hI
    obtain ⟨hn, hi⟩ := hI
    have hg := zFr_nl rg
    refine ⟨fun h3 => ?_, fun h3 => ?_⟩
    · skip
      exact ⟨_, by omega, rfl, hi⟩
    · skip
      refine ⟨fun h4 => ?_, fun h4 => ?_⟩
      · skip
        exact ⟨_, by omega, rfl, hi⟩
      · skip
        exact ⟨hg, fun _ => hi⟩
  · intro n g v150_1 v150_3 rg qv150_10 qv150_11 qv150_30 qv150_31 hI
    obtain ⟨hn, hi⟩ := hI
    have hg := zFr_nl rg
    refine ⟨fun h5 => ?_, fun h5 => ?_⟩
    · skip
      exact ⟨hg, fun z => absurd z (by decide)⟩
    · skip
      intro b6 eb6 fb6
      intro x13 hx131 hx132 g16 rg16 
      refine ⟨fun h18 => ?_, fun h18 => ?_⟩
      · skip
        have E1 : g16 = s0 := (zFr_nl rg16).trans hg
        exact ⟨E1, fun z => absurd z (by decide)⟩
      · skip
        have E1 : g16 = s0 := (zFr_nl rg16).trans hg
        exact ⟨E1, fun _ => hi⟩
set_option maxHeartbeats 4000000 in
theorem v_2111 {s0 : zF} {a0 : Int} : b_2111 s0 a0 (fun v g => g = s0 ∧ (v = 1 → IMGC s0)) := by
  refine ⟨fun n g v77_2 v77_4 v77_5 => n = (300 - v77_5).toNat ∧ (∀ p : Int, 0 ≤ p → p < v77_5 → s0 1 (2 + 7 * p).toNat ≤ 11 ∧ s0 1 (2 + 7 * p + 2).toNat ≤ 6 ∧ s0 1 (2 + 7 * p + 4).toNat ≤ 6), fun n g v158_2 v158_5 => n = (100 - v158_5).toNat ∧ IMGC s0, ?_, ?_, ?_⟩
  · skip
    intro x96 ex96 fx96 gx96
    intro x100 ex100
    intro x102 ex102 fx102 gx102
    intro x106 ex106
    intro x108 ex108
    intro x110 ex110
    intro x112 ex112
    intro x114 ex114
    refine ⟨fun h116 => ?_, fun h116 => ?_⟩
    · skip
      exact ⟨rfl, fun z => absurd z (by decide)⟩
    · skip
      intro x117 ex117
      refine ⟨fun v g' => g' = s0 ∧ v = s0 1 (x117 : Int).toNat, ?_, ?_⟩
      · skip
        exact v_2092
      · skip
        intro x124 hx1241 hx1242 g127 rg127 qg127
        intro x129 ex129
        intro x134 g137 rg137 
        refine ⟨fun h139 => ?_, fun h139 => ?_⟩
        · skip
          have E1 : g127 = s0 := (qg127 : g127 = s0 ∧ _).1.trans rfl
          have E2 : g137 = s0 := (zFr_nl rg137).trans E1
          exact ⟨E2, fun z => absurd z (by decide)⟩
        · skip
          refine ⟨fun _ g' => g' = g137, ?_, ?_⟩
          · skip
            exact v_2091 (by omega) (by omega)
          · skip
            intro x145 hx1451 hx1452 g148 rg148 qg148
            refine ⟨fun h150 => ?_, fun h150 => ?_⟩
            · skip
              have E1 : g127 = s0 := (qg127 : g127 = s0 ∧ _).1.trans rfl
              have E2 : g137 = s0 := (zFr_nl rg137).trans E1
              have E3 : g148 = s0 := (qg148 : g148 = g137).trans E2
              exact ⟨E3, fun z => absurd z (by decide)⟩
            · skip
              exact ⟨_, rfl, fun p h0 h1 => by omega⟩
  · intro n g v77_2 v77_4 v77_5 rg qv77_20 qv77_21 qv77_40 qv77_41 qv77_50 qv77_51 hI
    obtain ⟨hn, hi⟩ := hI
    have hg := zFr_nl rg
    intro x1 ex1 fx1 gx1
    refine ⟨fun h5 => ?_, fun h5 => ?_⟩
    · skip
      intro x6 ex6
      intro x8 ex8
      refine ⟨fun v g' => g' = g ∧ v = g 1 (x8 : Int).toNat, ?_, ?_⟩
      · skip
        exact v_2092
      · skip
        intro x15 hx151 hx152 g18 rg18 qg18
        intro b20 eb20 fb20
        intro x24 ex24 fx24 gx24
        refine ⟨fun h28 => ?_, fun h28 => ?_⟩
        · skip
          intro x29 
          intro x30 ex30 fx30
          refine ⟨fun h33 => ?_, fun h33 => ?_⟩
          · skip
            intro x34 ex34
            intro x36 ex36
            refine ⟨fun v g' => g' = g18 ∧ (v = 1 → g18 1 ((x36 : Int) + 2).toNat ≤ 6 ∧ g18 1 ((x36 : Int) + 4).toNat ≤ 6), ?_, ?_⟩
            · skip
              exact v_2112 (by omega) (by omega) (by omega) (by omega)
            · skip
              intro x43 hx431 hx432 g46 rg46 qg46
              refine ⟨fun h48 => ?_, fun h48 => ?_⟩
              · skip
                intro x49 ex49 fx49
                intro x52 ex52 fx52
                intro x55 ex55
                have E1 : g18 = s0 := (qg18 : g18 = g ∧ _).1.trans hg
                have E2 : g46 = s0 := (qg46 : g46 = g18 ∧ _).1.trans E1
                have w1 : x15 = g 1 (x8 : Int).toNat := (qg18 : _ ∧ x15 = _).2
                rw [hg, show x8 = 2 + 7 * v77_5 by omega] at w1
                have w2 := (qg46 : _ ∧ (x43 = 1 → _)).2 (by omega)
                rw [E1, show x36 = 2 + 7 * v77_5 by omega] at w2
                refine ⟨_, ?_, rfl, fun p p0 p1 => ?_⟩
                · omega
                · by_cases z : p = v77_5
                  · rw [z]
                    exact ⟨by omega, w2⟩
                  · exact hi p p0 (by omega)
              · skip
                have E1 : g18 = s0 := (qg18 : g18 = g ∧ _).1.trans hg
                have E2 : g46 = s0 := (qg46 : g46 = g18 ∧ _).1.trans E1
                exact ⟨E2, fun z => absurd z (by decide)⟩
          · skip
            have E1 : g18 = s0 := (qg18 : g18 = g ∧ _).1.trans hg
            exact ⟨E1, fun z => absurd z (by decide)⟩
        · skip
          have E1 : g18 = s0 := (qg18 : g18 = g ∧ _).1.trans hg
          exact ⟨E1, fun z => absurd z (by decide)⟩
    · skip
      have eN : x1 = s0 49 0 := by
        rw [ex1, hg]
      exact ⟨_, by omega, rfl, fun p p0 p1 => hi p p0 (by omega)⟩
  · intro n g v158_2 v158_5 rg qv158_20 qv158_21 qv158_50 qv158_51 hI
    obtain ⟨hn, hi⟩ := hI
    have hg := zFr_nl rg
    refine ⟨fun h57 => ?_, fun h57 => ?_⟩
    · skip
      intro x58 ex58 fx58 gx58
      intro x62 ex62
      intro x64 ex64
      intro x66 ex66
      intro x68 ex68
      refine ⟨fun v g' => g' = g ∧ v = g 1 (x68 : Int).toNat, ?_, ?_⟩
      · skip
        exact v_2092
      · skip
        intro x75 hx751 hx752 g78 rg78 qg78
        refine ⟨fun h80 => ?_, fun h80 => ?_⟩
        · skip
          have E1 : g78 = s0 := (qg78 : g78 = g ∧ _).1.trans hg
          exact ⟨E1, fun z => absurd z (by decide)⟩
        · skip
          intro x81 ex81
          refine ⟨fun v g' => g' = g78 ∧ v = g78 1 (x81 : Int).toNat, ?_, ?_⟩
          · skip
            exact v_2092
          · skip
            intro x88 hx881 hx882 g91 rg91 qg91
            refine ⟨fun h93 => ?_, fun h93 => ?_⟩
            · skip
              have E1 : g78 = s0 := (qg78 : g78 = g ∧ _).1.trans hg
              have E2 : g91 = s0 := (qg91 : g91 = g78 ∧ _).1.trans E1
              exact ⟨E2, fun z => absurd z (by decide)⟩
            · skip
              intro x94 ex94
              exact ⟨_, by omega, rfl, hi⟩
    · skip
      exact ⟨hg, fun _ => hi⟩
