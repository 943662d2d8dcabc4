/-! pure proofs of the class (wip/safe/gen40.py) -/
set_option maxHeartbeats 4000000 in
theorem v_260 {t : Nat} {s0 : zF} {a0 : Int} : b_260 t s0 a0 (fun _ _ => True) := by
  unfold b_260
  intro x4 ex4 fx4 gx4
  intro x6 ex6 fx6 gx6
  refine ⟨fun h9 => ?_, fun h9 => ?_⟩
  · skip
    trivial
  · skip
    trivial
set_option maxHeartbeats 4000000 in
theorem v_2108 {p0 : Nat} {s0 : zF} {a1 : Int} (hT : ∀ k, 0 ≤ s0 p0 k ∧ s0 p0 k ≤ 255) : b_2108 p0 s0 a1 (fun _ _ => True) := by
  refine ⟨fun n g v5_1 v5_2 v5_3 => n = (200 - v5_3).toNat, ?_, ?_⟩
  · skip
    exact ⟨_, rfl⟩
  · intro n g v5_1 v5_2 v5_3 rg qv5_10 qv5_11 qv5_20 qv5_21 qv5_30 qv5_31 hI
    have hn := hI
    have hg := zFr_nl rg
    rw [hg] at *
    have hb := hT v5_3.toNat
    refine ⟨fun h1 => ?_, fun h1 => ?_⟩
    · skip
      intro x2 ex2
      refine ⟨fun h4 => ?_, fun h4 => ?_⟩
      · skip
        intro x5 ex5
        intro x10 ex10
        have oh11 : (-2147483648 ≤ x5 + x10 ∧ x5 + x10 ≤ 2147483647) := by
          omega
        refine ⟨oh11, ?_⟩
        intro x12 ex12
        have oh14 : (0 ≤ x12) := by
          omega
        refine ⟨oh14, ?_⟩
        intro x15 ex15 fx15 gx15
        intro x19 ex19
        exact ⟨_, by omega, rfl⟩
      · skip
        trivial
    · skip
      trivial
set_option maxHeartbeats 4000000 in
theorem v_2092 {s0 : zF} {a0 : Int} : b_2092 s0 a0 (fun v g => g = s0 ∧ v = s0 1 a0.toNat) := by
  unfold b_2092
  intro x4 ex4 fx4 gx4
  exact ⟨rfl, ex4⟩
set_option maxHeartbeats 4000000 in
theorem v_2091 {s0 : zF} {a0 : Int} (h0 : 0 ≤ a0) (h1 : a0 ≤ 88) : b_2091 s0 a0 (fun _ g => g = s0) := by
  unfold b_2091
  refine ⟨fun v g' => g' = s0 ∧ v = s0 1 (a0 : Int).toNat, ?_, ?_⟩
  · skip
    exact v_2092
  · skip
    intro x6 hx61 hx62 g9 rg9 qg9
    intro x11 ex11
    intro x13 ex13
    refine ⟨fun v g' => g' = g9 ∧ v = g9 1 (x13 : Int).toNat, ?_, ?_⟩
    · skip
      exact v_2092
    · skip
      intro x20 hx201 hx202 g23 rg23 qg23
      intro x25 ex25
      exact ((qg23 : g23 = g9 ∧ _).1).trans (qg9 : g9 = s0 ∧ _).1
set_option maxHeartbeats 4000000 in
theorem v_2112 {s0 : zF} {a0 a1 : Int} (h0 : 0 ≤ a0) (h1 : a0 ≤ 11) (h2 : 0 ≤ a1) (h3 : a1 ≤ 79) : b_2112 s0 a0 a1 (fun v g => g = s0 ∧ (v = 1 → s0 1 (a1 + 2).toNat ≤ 6 ∧ s0 1 (a1 + 4).toNat ≤ 6)) := by
  refine ⟨fun n g v120_1 v120_3 v120_4 v120_6 => n = 3 ∧ s0 1 (a1 + 2).toNat ≤ 6 ∧ s0 1 (a1 + 4).toNat ≤ 6, fun n g v134_1 v134_3 v134_4 v134_6 => n = 2 ∧ s0 1 (a1 + 2).toNat ≤ 6 ∧ s0 1 (a1 + 4).toNat ≤ 6, fun n g v150_1 v150_3 => n = 1 ∧ s0 1 (a1 + 2).toNat ≤ 6 ∧ s0 1 (a1 + 4).toNat ≤ 6, ?_, ?_, ?_, ?_⟩
  · skip
    intro x21 ex21
    refine ⟨fun v g' => g' = s0 ∧ v = s0 1 (x21 : Int).toNat, ?_, ?_⟩
    · skip
      exact v_2092
    · skip
      intro x28 hx281 hx282 g31 rg31 qg31
      intro x33 ex33
      refine ⟨fun v g' => g' = g31 ∧ v = g31 1 (x33 : Int).toNat, ?_, ?_⟩
      · skip
        exact v_2092
      · skip
        intro x40 hx401 hx402 g43 rg43 qg43
        intro x45 ex45
        intro x47 ex47
        refine ⟨fun v g' => g' = g43 ∧ v = g43 1 (x47 : Int).toNat, ?_, ?_⟩
        · skip
          exact v_2092
        · skip
          intro x54 hx541 hx542 g57 rg57 qg57
          intro x59 ex59
          refine ⟨fun v g' => g' = g57 ∧ v = g57 1 (x59 : Int).toNat, ?_, ?_⟩
          · skip
            exact v_2092
          · skip
            intro x66 hx661 hx662 g69 rg69 qg69
            intro x71 ex71
            refine ⟨fun h73 => ?_, fun h73 => ?_⟩
            · skip
              have E1 : g31 = s0 := (qg31 : g31 = s0 ∧ _).1.trans rfl
              have E2 : g43 = s0 := (qg43 : g43 = g31 ∧ _).1.trans E1
              have E3 : g57 = s0 := (qg57 : g57 = g43 ∧ _).1.trans E2
              have E4 : g69 = s0 := (qg69 : g69 = g57 ∧ _).1.trans E3
              exact ⟨E4, fun z => absurd z (by decide)⟩
            · skip
              intro b74 eb74 fb74
              intro x78 ex78 fx78 gx78
              refine ⟨fun h82 => ?_, fun h82 => ?_⟩
              · skip
                refine ⟨fun h83 => ?_, fun h83 => ?_⟩
                · skip
                  intro x84 ex84
                  refine ⟨fun _ g' => g' = g69, ?_, ?_⟩
                  · skip
                    exact v_2091 (by omega) (by omega)
                  · skip
                    intro x91 hx911 hx912 g94 rg94 qg94
                    refine ⟨fun h96 => ?_, fun h96 => ?_⟩
                    · skip
                      have E1 : g31 = s0 := (qg31 : g31 = s0 ∧ _).1.trans rfl
                      have E2 : g43 = s0 := (qg43 : g43 = g31 ∧ _).1.trans E1
                      have E3 : g57 = s0 := (qg57 : g57 = g43 ∧ _).1.trans E2
                      have E4 : g69 = s0 := (qg69 : g69 = g57 ∧ _).1.trans E3
                      have E5 : g94 = s0 := (qg94 : g94 = g69).trans E4
                      exact ⟨E5, fun z => absurd z (by decide)⟩
                    · skip
                      refine ⟨fun h97 => ?_, fun h97 => ?_⟩
                      · skip
                        refine ⟨fun h98 => ?_, fun h98 => ?_⟩
                        · skip
                          have E1 : g31 = s0 := (qg31 : g31 = s0 ∧ _).1.trans rfl
                          have E2 : g43 = s0 := (qg43 : g43 = g31 ∧ _).1.trans E1
                          have E3 : g57 = s0 := (qg57 : g57 = g43 ∧ _).1.trans E2
                          have E4 : g69 = s0 := (qg69 : g69 = g57 ∧ _).1.trans E3
                          have E5 : g94 = s0 := (qg94 : g94 = g69).trans E4
                          exact ⟨E5, fun z => absurd z (by decide)⟩
                        · skip
                          intro x103 ex103
                          refine ⟨fun h104 => ?_, fun h104 => ?_⟩
                          · skip
                            have E1 : g31 = s0 := (qg31 : g31 = s0 ∧ _).1.trans rfl
                            have E2 : g43 = s0 := (qg43 : g43 = g31 ∧ _).1.trans E1
                            have E3 : g57 = s0 := (qg57 : g57 = g43 ∧ _).1.trans E2
                            have E4 : g69 = s0 := (qg69 : g69 = g57 ∧ _).1.trans E3
                            have E5 : g94 = s0 := (qg94 : g94 = g69).trans E4
                            exact ⟨E5, fun z => absurd z (by decide)⟩
                          · skip
                            have E1 : g31 = s0 := (qg31 : g31 = s0 ∧ _).1.trans rfl
                            have E2 : g43 = s0 := (qg43 : g43 = g31 ∧ _).1.trans E1
                            have E3 : g57 = s0 := (qg57 : g57 = g43 ∧ _).1.trans E2
                            have E4 : g69 = s0 := (qg69 : g69 = g57 ∧ _).1.trans E3
                            have E5 : g94 = s0 := (qg94 : g94 = g69).trans E4
                            have w1 : x40 = g31 1 (x33 : Int).toNat := (qg43 : _ ∧ x40 = _).2
                            have w2 : x66 = g57 1 (x59 : Int).toNat := (qg69 : _ ∧ x66 = _).2
                            rw [E1, show x33 = a1 + 2 by omega] at w1
                            rw [E3, show x59 = a1 + 4 by omega] at w2
                            exact ⟨_, rfl, by omega, by omega⟩
                      · skip
                        refine ⟨fun h105 => ?_, fun h105 => ?_⟩
                        · skip
                          have E1 : g31 = s0 := (qg31 : g31 = s0 ∧ _).1.trans rfl
                          have E2 : g43 = s0 := (qg43 : g43 = g31 ∧ _).1.trans E1
                          have E3 : g57 = s0 := (qg57 : g57 = g43 ∧ _).1.trans E2
                          have E4 : g69 = s0 := (qg69 : g69 = g57 ∧ _).1.trans E3
                          have E5 : g94 = s0 := (qg94 : g94 = g69).trans E4
                          exact ⟨E5, fun z => absurd z (by decide)⟩
                        · skip
                          have E1 : g31 = s0 := (qg31 : g31 = s0 ∧ _).1.trans rfl
                          have E2 : g43 = s0 := (qg43 : g43 = g31 ∧ _).1.trans E1
                          have E3 : g57 = s0 := (qg57 : g57 = g43 ∧ _).1.trans E2
                          have E4 : g69 = s0 := (qg69 : g69 = g57 ∧ _).1.trans E3
                          have E5 : g94 = s0 := (qg94 : g94 = g69).trans E4
                          have w1 : x40 = g31 1 (x33 : Int).toNat := (qg43 : _ ∧ x40 = _).2
                          have w2 : x66 = g57 1 (x59 : Int).toNat := (qg69 : _ ∧ x66 = _).2
                          rw [E1, show x33 = a1 + 2 by omega] at w1
                          rw [E3, show x59 = a1 + 4 by omega] at w2
                          exact ⟨_, rfl, by omega, by omega⟩
                · skip
                  have E1 : g31 = s0 := (qg31 : g31 = s0 ∧ _).1.trans rfl
                  have E2 : g43 = s0 := (qg43 : g43 = g31 ∧ _).1.trans E1
                  have E3 : g57 = s0 := (qg57 : g57 = g43 ∧ _).1.trans E2
                  have E4 : g69 = s0 := (qg69 : g69 = g57 ∧ _).1.trans E3
                  exact ⟨E4, fun z => absurd z (by decide)⟩
              · skip
                have E1 : g31 = s0 := (qg31 : g31 = s0 ∧ _).1.trans rfl
                have E2 : g43 = s0 := (qg43 : g43 = g31 ∧ _).1.trans E1
                have E3 : g57 = s0 := (qg57 : g57 = g43 ∧ _).1.trans E2
                have E4 : g69 = s0 := (qg69 : g69 = g57 ∧ _).1.trans E3
                exact ⟨E4, fun z => absurd z (by decide)⟩
  · intro n g v120_1 v120_3 v120_4 v120_6 rg qv120_10 qv120_11 qv120_30 qv120_31 qv120_40 qv120_41 qv120_60 qv120_61 hI
    obtain ⟨hn, hi⟩ := hI
    have hg := zFr_nl rg
    refine ⟨fun h1 => ?_, fun h1 => ?_⟩
    · skip
      refine ⟨fun h2 => ?_, fun h2 => ?_⟩
      · skip
        exact ⟨hg, fun z => absurd z (by decide)⟩
      · skip
        exact ⟨_, by omega, rfl, hi⟩
    · skip
      exact ⟨_, by omega, rfl, hi⟩
  · intro n g v134_1 v134_3 v134_4 v134_6 rg qv134_10 qv134_11 qv134_30 qv134_31 qv134_40 qv134_41 qv134_60 qv134_61 hI
    obtain ⟨hn, hi⟩ := hI
    have hg := zFr_nl rg
    refine ⟨fun h3 => ?_, fun h3 => ?_⟩
    · skip
      exact ⟨_, by omega, rfl, hi⟩
    · skip
      refine ⟨fun h4 => ?_, fun h4 => ?_⟩
      · skip
        exact ⟨_, by omega, rfl, hi⟩
      · skip
        exact ⟨hg, fun _ => hi⟩
  · intro n g v150_1 v150_3 rg qv150_10 qv150_11 qv150_30 qv150_31 hI
    obtain ⟨hn, hi⟩ := hI
    have hg := zFr_nl rg
    refine ⟨fun h5 => ?_, fun h5 => ?_⟩
    · skip
      exact ⟨hg, fun z => absurd z (by decide)⟩
    · skip
      intro b6 eb6 fb6
      refine ⟨fun _ _ => True, ?_, ?_⟩
      · skip
        exact v_260
      · skip
        intro x15 hx151 hx152 g18 rg18 qg18
        refine ⟨fun h20 => ?_, fun h20 => ?_⟩
        · skip
          have E1 : g18 = s0 := (zFr_nl rg18).trans hg
          exact ⟨E1, fun z => absurd z (by decide)⟩
        · skip
          have E1 : g18 = s0 := (zFr_nl rg18).trans hg
          exact ⟨E1, fun _ => hi⟩
set_option maxHeartbeats 4000000 in
theorem v_2111 {s0 : zF} {a0 : Int} (hT : ∀ k, 0 ≤ s0 1 k ∧ s0 1 k ≤ 255) : b_2111 s0 a0 (fun v g => g = s0 ∧ (v = 1 → IMGC s0)) := by
  refine ⟨fun n g v77_2 v77_4 v77_5 => n = (300 - v77_5).toNat ∧ (∀ p : Int, 0 ≤ p → p < v77_5 → s0 1 (2 + 7 * p).toNat ≤ 11 ∧ s0 1 (2 + 7 * p + 2).toNat ≤ 6 ∧ s0 1 (2 + 7 * p + 4).toNat ≤ 6), fun n g v158_2 v158_5 => n = (100 - v158_5).toNat ∧ IMGC s0, ?_, ?_, ?_⟩
  · skip
    intro x96 ex96 fx96 gx96
    intro x100 ex100
    intro x102 ex102 fx102 gx102
    intro x106 ex106
    intro x108 ex108
    intro x110 ex110
    intro x112 ex112
    intro x114 ex114
    refine ⟨fun h116 => ?_, fun h116 => ?_⟩
    · skip
      exact ⟨rfl, fun z => absurd z (by decide)⟩
    · skip
      intro x117 ex117
      refine ⟨fun v g' => g' = s0 ∧ v = s0 1 (x117 : Int).toNat, ?_, ?_⟩
      · skip
        exact v_2092
      · skip
        intro x124 hx1241 hx1242 g127 rg127 qg127
        intro x129 ex129
        refine ⟨fun _ _ => True, ?_, ?_⟩
        · skip
          have E1 : g127 = s0 := (qg127 : g127 = s0 ∧ _).1.trans rfl
          exact v_2108 (by rw [E1]; exact hT)
        · skip
          intro x136 hx1361 hx1362 g139 rg139 qg139
          refine ⟨fun h141 => ?_, fun h141 => ?_⟩
          · skip
            have E1 : g127 = s0 := (qg127 : g127 = s0 ∧ _).1.trans rfl
            have E2 : g139 = s0 := (zFr_nl rg139).trans E1
            exact ⟨E2, fun z => absurd z (by decide)⟩
          · skip
            refine ⟨fun _ g' => g' = g139, ?_, ?_⟩
            · skip
              exact v_2091 (by omega) (by omega)
            · skip
              intro x147 hx1471 hx1472 g150 rg150 qg150
              refine ⟨fun h152 => ?_, fun h152 => ?_⟩
              · skip
                have E1 : g127 = s0 := (qg127 : g127 = s0 ∧ _).1.trans rfl
                have E2 : g139 = s0 := (zFr_nl rg139).trans E1
                have E3 : g150 = s0 := (qg150 : g150 = g139).trans E2
                exact ⟨E3, fun z => absurd z (by decide)⟩
              · skip
                exact ⟨_, rfl, fun p h0 h1 => by omega⟩
  · intro n g v77_2 v77_4 v77_5 rg qv77_20 qv77_21 qv77_50 qv77_51 hI
    obtain ⟨hn, hi⟩ := hI
    have hg := zFr_nl rg
    intro x1 ex1 fx1 gx1
    refine ⟨fun h5 => ?_, fun h5 => ?_⟩
    · skip
      intro x6 ex6
      intro x8 ex8
      refine ⟨fun v g' => g' = g ∧ v = g 1 (x8 : Int).toNat, ?_, ?_⟩
      · skip
        exact v_2092
      · skip
        intro x15 hx151 hx152 g18 rg18 qg18
        intro b20 eb20 fb20
        intro x24 ex24 fx24 gx24
        refine ⟨fun h28 => ?_, fun h28 => ?_⟩
        · skip
          intro x30 ex30
          intro x32 ex32 fx32 gx32
          refine ⟨fun h35 => ?_, fun h35 => ?_⟩
          · skip
            intro x36 ex36
            intro x38 ex38
            refine ⟨fun v g' => g' = g18 ∧ (v = 1 → g18 1 ((x38 : Int) + 2).toNat ≤ 6 ∧ g18 1 ((x38 : Int) + 4).toNat ≤ 6), ?_, ?_⟩
            · skip
              exact v_2112 (by omega) (by omega) (by omega) (by omega)
            · skip
              intro x45 hx451 hx452 g48 rg48 qg48
              refine ⟨fun h50 => ?_, fun h50 => ?_⟩
              · skip
                intro x52 ex52
                intro x54 ex54
                intro x55 ex55
                have E1 : g18 = s0 := (qg18 : g18 = g ∧ _).1.trans hg
                have E2 : g48 = s0 := (qg48 : g48 = g18 ∧ _).1.trans E1
                have w1 : x15 = g 1 (x8 : Int).toNat := (qg18 : _ ∧ x15 = _).2
                rw [hg, show x8 = 2 + 7 * v77_5 by omega] at w1
                have w2 := (qg48 : _ ∧ (x45 = 1 → _)).2 (by omega)
                rw [E1, show x38 = 2 + 7 * v77_5 by omega] at w2
                refine ⟨_, ?_, rfl, fun p p0 p1 => ?_⟩
                · omega
                · by_cases z : p = v77_5
                  · rw [z]
                    exact ⟨by omega, w2⟩
                  · exact hi p p0 (by omega)
              · skip
                have E1 : g18 = s0 := (qg18 : g18 = g ∧ _).1.trans hg
                have E2 : g48 = s0 := (qg48 : g48 = g18 ∧ _).1.trans E1
                exact ⟨E2, fun z => absurd z (by decide)⟩
          · skip
            have E1 : g18 = s0 := (qg18 : g18 = g ∧ _).1.trans hg
            exact ⟨E1, fun z => absurd z (by decide)⟩
        · skip
          have E1 : g18 = s0 := (qg18 : g18 = g ∧ _).1.trans hg
          exact ⟨E1, fun z => absurd z (by decide)⟩
    · skip
      have eN : x1 = s0 49 0 := by
        rw [ex1, hg]
      exact ⟨_, by omega, rfl, fun p p0 p1 => hi p p0 (by omega)⟩
  · intro n g v158_2 v158_5 rg qv158_20 qv158_21 qv158_50 qv158_51 hI
    obtain ⟨hn, hi⟩ := hI
    have hg := zFr_nl rg
    refine ⟨fun h57 => ?_, fun h57 => ?_⟩
    · skip
      intro x58 ex58 fx58 gx58
      intro x62 ex62
      intro x64 ex64
      intro x66 ex66
      intro x68 ex68
      refine ⟨fun v g' => g' = g ∧ v = g 1 (x68 : Int).toNat, ?_, ?_⟩
      · skip
        exact v_2092
      · skip
        intro x75 hx751 hx752 g78 rg78 qg78
        refine ⟨fun h80 => ?_, fun h80 => ?_⟩
        · skip
          have E1 : g78 = s0 := (qg78 : g78 = g ∧ _).1.trans hg
          exact ⟨E1, fun z => absurd z (by decide)⟩
        · skip
          intro x81 ex81
          refine ⟨fun v g' => g' = g78 ∧ v = g78 1 (x81 : Int).toNat, ?_, ?_⟩
          · skip
            exact v_2092
          · skip
            intro x88 hx881 hx882 g91 rg91 qg91
            refine ⟨fun h93 => ?_, fun h93 => ?_⟩
            · skip
              have E1 : g78 = s0 := (qg78 : g78 = g ∧ _).1.trans hg
              have E2 : g91 = s0 := (qg91 : g91 = g78 ∧ _).1.trans E1
              exact ⟨E2, fun z => absurd z (by decide)⟩
            · skip
              intro x94 ex94
              exact ⟨_, by omega, rfl, hi⟩
    · skip
      exact ⟨hg, fun _ => hi⟩
