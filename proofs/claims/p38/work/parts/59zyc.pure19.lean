/-! partial proofs of the image (wip/safe/vcp.py) -/
set_option maxHeartbeats 4000000 in
theorem w_260 {t : Nat} {s0 : zF} {a0 : Int} : p_260 t s0 a0 (fun v g => g = s0 ∧ (v = 1 ∧ zxand (s0 (t + 6) a0.toNat) 2 ≠ 0 ∨ v = 0 ∧ zxand (s0 (t + 6) a0.toNat) 2 = 0)) := by
  unfold p_260
  intro x4 ex4 o2 o3 x6 ex6 o5 o6
  refine ⟨fun h7z => ?_, fun h7z => ?_⟩
  · skip
    rw [ex4] at ex6
    exact ⟨rfl, by omega⟩
  · skip
    rw [ex4] at ex6
    exact ⟨rfl, by omega⟩
set_option maxHeartbeats 4000000 in
theorem w_2092 {s0 : zF} {a0 : Int} : p_2092 s0 a0 (fun v g => g = s0 ∧ v = s0 1 a0.toNat) := by
  unfold p_2092
  intro x4 ex4 o2 o3
  exact ⟨rfl, ex4⟩
set_option maxHeartbeats 4000000 in
theorem w_2091 {s0 : zF} {a0 : Int} (h0 : 0 ≤ a0) : p_2091 s0 a0 (fun v g => g = s0 ∧ v = 256 * s0 1 a0.toNat + s0 1 (a0.toNat + 1)) := by
  unfold p_2091
  refine ⟨fun v g' => g' = s0 ∧ v = s0 1 (a0 : Int).toNat, ?_, ?_⟩
  · skip
    exact w_2092
  · skip
    intro x6 o1 o2 g9 rg9 qg9 x11 ex11 x13 ex13
    refine ⟨fun v g' => g' = g9 ∧ v = g9 1 (x13 : Int).toNat, ?_, ?_⟩
    · skip
      exact w_2092
    · skip
      intro x20 o7 o8 g23 rg23 qg23 x25 ex25
      obtain ⟨E1, w1⟩ : g9 = s0 ∧ x6 = s0 1 a0.toNat := qg9
      obtain ⟨E2, w2⟩ : g23 = g9 ∧ x20 = g9 1 (x13 : Int).toNat := qg23
      rw [E1, show (x13 : Int).toNat = a0.toNat + 1 by omega] at w2
      exact ⟨E2.trans E1, by omega⟩
set_option maxHeartbeats 4000000 in
theorem w_2108 {p0 : Nat} {s0 : zF} {a1 : Int} (h0 : 0 ≤ a1) (hl : a1 ≤ zSl p0) : p_2108 p0 s0 a1 (fun v g => g = s0 ∧ v = SEAL (s0 p0) a1.toNat) := by
  refine ⟨fun g v5_1 v5_2 v5_3 => v5_1 = a1 ∧ v5_3 ≤ a1 ∧ v5_2 = SEAL (s0 p0) v5_3.toNat, ?_, ?_⟩
  · skip
    exact ⟨rfl, h0, rfl⟩
  · intro g v5_1 v5_2 v5_3 rg o1 o2 o3 o4 o5 o6 hI
    obtain ⟨h1, h3, h2⟩ := hI
    have hg := zFr_nl rg
    refine ⟨fun h7z => ?_, fun h7z => ?_⟩
    · skip
      intro x2 ex2
      refine ⟨fun h9z => ?_, fun h9z => ?_⟩
      · skip
        intro x5 ex5 x10 ex10 o12 x12 ex12 o14 x15 o15 o16 ex15 x19 ex19
        have eb : x10 = s0 p0 v5_3.toNat := by rw [ex10, hg]
        refine ⟨h1, by omega, ?_⟩
        rw [show x19.toNat = v5_3.toNat + 1 by omega]
        show _ = (5 * SEAL (s0 p0) v5_3.toNat + s0 p0 v5_3.toNat) % 251
        rw [← h2, ← eb]
        omega
      · skip
        refine ⟨hg, ?_⟩
        rw [h2, show v5_3.toNat = a1.toNat by omega]
    · skip
      refine ⟨hg, ?_⟩
      rw [h2, show v5_3.toNat = a1.toNat by omega]
set_option maxHeartbeats 4000000 in
theorem w_2112 {s0 : zF} {a0 a1 : Int} (hT : ∀ k, 0 ≤ s0 1 k) (h1 : 0 ≤ a1) (h0 : a0 = s0 1 a1.toNat) (hc : s0 0 3 = 7 ∨ s0 0 3 = 28) : p_2112 s0 a0 a1 (fun v g => g = s0 ∧ (v = 1 ∧ (BON (s0 1) a1.toNat (s0 (s0 0 3).toNat 2) (s0 ((s0 0 3).toNat + 9)) (s0 ((s0 0 3).toNat + 6))) ∨ v = 0 ∧ ¬(BON (s0 1) a1.toNat (s0 (s0 0 3).toNat 2) (s0 ((s0 0 3).toNat + 9)) (s0 ((s0 0 3).toNat + 6))))) := by
  have t2 := hT (a1.toNat + 2)
  have t4 := hT (a1.toNat + 4)
  have t1 := hT (a1.toNat + 1)
  refine ⟨fun g v120_1 v120_3 v120_4 v120_6 => v120_1 = a0 ∧ v120_3 = s0 1 (a1.toNat + 1) ∧ v120_4 = s0 1 (a1.toNat + 2) - 1 ∧ v120_6 = s0 1 (a1.toNat + 4) - 1 ∧ s0 1 (a1.toNat + 1) ≤ 1 ∧ s0 1 (a1.toNat + 2) - 1 < (s0 (s0 0 3).toNat 2) ∧ s0 1 (a1.toNat + 4) - 1 < (s0 (s0 0 3).toNat 2) ∧ 256 * s0 1 (a1.toNat + 5) + s0 1 (a1.toNat + 6) ≤ 9999 ∧ (s0 1 (a1.toNat + 2) = 0 → s0 1 (a1.toNat + 3) = 0) ∧ (s0 1 (a1.toNat + 2) ≠ 0 → 1 ≤ s0 1 (a1.toNat + 3) ∧ s0 1 (a1.toNat + 3) ≤ (s0 ((s0 0 3).toNat + 9)) (s0 1 (a1.toNat + 2) - 1).toNat), fun g v134_1 v134_3 v134_4 v134_6 => v134_1 = a0 ∧ v134_3 = s0 1 (a1.toNat + 1) ∧ v134_4 = s0 1 (a1.toNat + 2) - 1 ∧ v134_6 = s0 1 (a1.toNat + 4) - 1 ∧ s0 1 (a1.toNat + 1) ≤ 1 ∧ s0 1 (a1.toNat + 2) - 1 < (s0 (s0 0 3).toNat 2) ∧ s0 1 (a1.toNat + 4) - 1 < (s0 (s0 0 3).toNat 2) ∧ 256 * s0 1 (a1.toNat + 5) + s0 1 (a1.toNat + 6) ≤ 9999 ∧ (s0 1 (a1.toNat + 2) = 0 → s0 1 (a1.toNat + 3) = 0) ∧ (s0 1 (a1.toNat + 2) ≠ 0 → 1 ≤ s0 1 (a1.toNat + 3) ∧ s0 1 (a1.toNat + 3) ≤ (s0 ((s0 0 3).toNat + 9)) (s0 1 (a1.toNat + 2) - 1).toNat) ∧ ¬(s0 1 (a1.toNat + 2) ≠ 0 ∧ s0 1 (a1.toNat + 4) ≠ 0), fun g v150_1 v150_3 => v150_1 = a0 ∧ v150_3 = s0 1 (a1.toNat + 1) ∧ s0 1 (a1.toNat + 1) ≤ 1 ∧ s0 1 (a1.toNat + 2) - 1 < (s0 (s0 0 3).toNat 2) ∧ s0 1 (a1.toNat + 4) - 1 < (s0 (s0 0 3).toNat 2) ∧ 256 * s0 1 (a1.toNat + 5) + s0 1 (a1.toNat + 6) ≤ 9999 ∧ (s0 1 (a1.toNat + 2) = 0 → s0 1 (a1.toNat + 3) = 0) ∧ (s0 1 (a1.toNat + 2) ≠ 0 → 1 ≤ s0 1 (a1.toNat + 3) ∧ s0 1 (a1.toNat + 3) ≤ (s0 ((s0 0 3).toNat + 9)) (s0 1 (a1.toNat + 2) - 1).toNat) ∧ ¬(s0 1 (a1.toNat + 2) ≠ 0 ∧ s0 1 (a1.toNat + 4) ≠ 0) ∧ (s0 1 (a1.toNat + 2) ≠ 0 ∨ s0 1 (a1.toNat + 4) ≠ 0), ?_, ?_, ?_, ?_⟩
  · skip
    intro x21 ex21
    refine ⟨fun v g' => g' = s0 ∧ v = s0 1 (x21 : Int).toNat, ?_, ?_⟩
    · skip
      exact w_2092
    · skip
      intro x28 o2 o3 g31 rg31 qg31 x33 ex33
      refine ⟨fun v g' => g' = g31 ∧ v = g31 1 (x33 : Int).toNat, ?_, ?_⟩
      · skip
        exact w_2092
      · skip
        intro x40 o7 o8 g43 rg43 qg43 x45 ex45 x47 ex47
        refine ⟨fun v g' => g' = g43 ∧ v = g43 1 (x47 : Int).toNat, ?_, ?_⟩
        · skip
          exact w_2092
        · skip
          intro x54 o13 o14 g57 rg57 qg57 x59 ex59
          refine ⟨fun v g' => g' = g57 ∧ v = g57 1 (x59 : Int).toNat, ?_, ?_⟩
          · skip
            exact w_2092
          · skip
            intro x66 o18 o19 g69 rg69 qg69 x71 ex71
            refine ⟨fun h23z => ?_, fun h23z => ?_⟩
            · skip
              have E0 : s0 = s0 := rfl
              obtain ⟨F1, W1⟩ : g31 = s0 ∧ x28 = s0 1 (x21 : Int).toNat := qg31
              have E1 := F1.trans E0
              rw [E0] at W1
              obtain ⟨F2, W2⟩ : g43 = g31 ∧ x40 = g31 1 (x33 : Int).toNat := qg43
              have E2 := F2.trans E1
              rw [E1] at W2
              obtain ⟨F3, W3⟩ : g57 = g43 ∧ x54 = g43 1 (x47 : Int).toNat := qg57
              have E3 := F3.trans E2
              rw [E2] at W3
              obtain ⟨F4, W4⟩ : g69 = g57 ∧ x66 = g57 1 (x59 : Int).toNat := qg69
              have E4 := F4.trans E3
              rw [E3] at W4
              rw [show (x21 : Int).toNat = a1.toNat + 1 by omega] at W1
              rw [show (x33 : Int).toNat = a1.toNat + 2 by omega] at W2
              rw [show (x47 : Int).toNat = a1.toNat + 3 by omega] at W3
              rw [show (x59 : Int).toNat = a1.toNat + 4 by omega] at W4
              refine ⟨E4, Or.inr ⟨rfl, fun z => ?_⟩⟩
              obtain ⟨b1, b2, b3, b4, b5, b6, b7, b8⟩ := z
              clear b6
              first
              | omega
              | (have c := b5 (by omega)
                 omega)
              | (have c := b4 (by omega)
                 omega)
            · skip
              intro b74 eb74 eb74 x78 ex78 o27 o28
              refine ⟨fun h29z => ?_, fun h29z => ?_⟩
              · skip
                refine ⟨fun h30z => ?_, fun h30z => ?_⟩
                · skip
                  intro x84 ex84
                  refine ⟨fun v g' => g' = g69 ∧ v = 256 * g69 1 (x84 : Int).toNat + g69 1 ((x84 : Int).toNat + 1), ?_, ?_⟩
                  · skip
                    exact w_2091 (by omega)
                  · skip
                    intro x91 o32 o33 g94 rg94 qg94
                    refine ⟨fun h36z => ?_, fun h36z => ?_⟩
                    · skip
                      have E0 : s0 = s0 := rfl
                      obtain ⟨F1, W1⟩ : g31 = s0 ∧ x28 = s0 1 (x21 : Int).toNat := qg31
                      have E1 := F1.trans E0
                      rw [E0] at W1
                      obtain ⟨F2, W2⟩ : g43 = g31 ∧ x40 = g31 1 (x33 : Int).toNat := qg43
                      have E2 := F2.trans E1
                      rw [E1] at W2
                      obtain ⟨F3, W3⟩ : g57 = g43 ∧ x54 = g43 1 (x47 : Int).toNat := qg57
                      have E3 := F3.trans E2
                      rw [E2] at W3
                      obtain ⟨F4, W4⟩ : g69 = g57 ∧ x66 = g57 1 (x59 : Int).toNat := qg69
                      have E4 := F4.trans E3
                      rw [E3] at W4
                      obtain ⟨F5, W5⟩ : g94 = g69 ∧ x91 = 256 * g69 1 (x84 : Int).toNat + g69 1 ((x84 : Int).toNat + 1) := qg94
                      have E5 := F5.trans E4
                      rw [E4] at W5
                      rw [show (x21 : Int).toNat = a1.toNat + 1 by omega] at W1
                      rw [show (x33 : Int).toNat = a1.toNat + 2 by omega] at W2
                      rw [show (x47 : Int).toNat = a1.toNat + 3 by omega] at W3
                      rw [show (x59 : Int).toNat = a1.toNat + 4 by omega] at W4
                      rw [show (x84 : Int).toNat = a1.toNat + 5 by omega] at W5
                      have W5b : x91 = 256 * s0 1 (a1.toNat + 5) + s0 1 (a1.toNat + 6) := W5
                      have kb : b74 = (s0 0 3).toNat := by
                        have w := E4
                        have w2 : g69 0 3 = s0 0 3 := by rw [w]
                        omega
                      rw [kb, E4] at ex78
                      refine ⟨E5, Or.inr ⟨rfl, fun z => ?_⟩⟩
                      obtain ⟨b1, b2, b3, b4, b5, b6, b7, b8⟩ := z
                      clear b6
                      first
                      | omega
                      | (have c := b5 (by omega)
                         omega)
                      | (have c := b4 (by omega)
                         omega)
                    · skip
                      refine ⟨fun h37z => ?_, fun h37z => ?_⟩
                      · skip
                        refine ⟨fun h38z => ?_, fun h38z => ?_⟩
                        · skip
                          have E0 : s0 = s0 := rfl
                          obtain ⟨F1, W1⟩ : g31 = s0 ∧ x28 = s0 1 (x21 : Int).toNat := qg31
                          have E1 := F1.trans E0
                          rw [E0] at W1
                          obtain ⟨F2, W2⟩ : g43 = g31 ∧ x40 = g31 1 (x33 : Int).toNat := qg43
                          have E2 := F2.trans E1
                          rw [E1] at W2
                          obtain ⟨F3, W3⟩ : g57 = g43 ∧ x54 = g43 1 (x47 : Int).toNat := qg57
                          have E3 := F3.trans E2
                          rw [E2] at W3
                          obtain ⟨F4, W4⟩ : g69 = g57 ∧ x66 = g57 1 (x59 : Int).toNat := qg69
                          have E4 := F4.trans E3
                          rw [E3] at W4
                          obtain ⟨F5, W5⟩ : g94 = g69 ∧ x91 = 256 * g69 1 (x84 : Int).toNat + g69 1 ((x84 : Int).toNat + 1) := qg94
                          have E5 := F5.trans E4
                          rw [E4] at W5
                          rw [show (x21 : Int).toNat = a1.toNat + 1 by omega] at W1
                          rw [show (x33 : Int).toNat = a1.toNat + 2 by omega] at W2
                          rw [show (x47 : Int).toNat = a1.toNat + 3 by omega] at W3
                          rw [show (x59 : Int).toNat = a1.toNat + 4 by omega] at W4
                          rw [show (x84 : Int).toNat = a1.toNat + 5 by omega] at W5
                          have W5b : x91 = 256 * s0 1 (a1.toNat + 5) + s0 1 (a1.toNat + 6) := W5
                          have kb : b74 = (s0 0 3).toNat := by
                            have w := E4
                            have w2 : g69 0 3 = s0 0 3 := by rw [w]
                            omega
                          rw [kb, E4] at ex78
                          refine ⟨E5, Or.inr ⟨rfl, fun z => ?_⟩⟩
                          obtain ⟨b1, b2, b3, b4, b5, b6, b7, b8⟩ := z
                          clear b6
                          first
                          | omega
                          | (have c := b5 (by omega)
                             omega)
                          | (have c := b4 (by omega)
                             omega)
                        · skip
                          intro x103 ex103
                          refine ⟨fun h40z => ?_, fun h40z => ?_⟩
                          · skip
                            have E0 : s0 = s0 := rfl
                            obtain ⟨F1, W1⟩ : g31 = s0 ∧ x28 = s0 1 (x21 : Int).toNat := qg31
                            have E1 := F1.trans E0
                            rw [E0] at W1
                            obtain ⟨F2, W2⟩ : g43 = g31 ∧ x40 = g31 1 (x33 : Int).toNat := qg43
                            have E2 := F2.trans E1
                            rw [E1] at W2
                            obtain ⟨F3, W3⟩ : g57 = g43 ∧ x54 = g43 1 (x47 : Int).toNat := qg57
                            have E3 := F3.trans E2
                            rw [E2] at W3
                            obtain ⟨F4, W4⟩ : g69 = g57 ∧ x66 = g57 1 (x59 : Int).toNat := qg69
                            have E4 := F4.trans E3
                            rw [E3] at W4
                            obtain ⟨F5, W5⟩ : g94 = g69 ∧ x91 = 256 * g69 1 (x84 : Int).toNat + g69 1 ((x84 : Int).toNat + 1) := qg94
                            have E5 := F5.trans E4
                            rw [E4] at W5
                            rw [show (x21 : Int).toNat = a1.toNat + 1 by omega] at W1
                            rw [show (x33 : Int).toNat = a1.toNat + 2 by omega] at W2
                            rw [show (x47 : Int).toNat = a1.toNat + 3 by omega] at W3
                            rw [show (x59 : Int).toNat = a1.toNat + 4 by omega] at W4
                            rw [show (x84 : Int).toNat = a1.toNat + 5 by omega] at W5
                            have W5b : x91 = 256 * s0 1 (a1.toNat + 5) + s0 1 (a1.toNat + 6) := W5
                            have kb : b74 = (s0 0 3).toNat := by
                              have w := E4
                              have w2 : g69 0 3 = s0 0 3 := by rw [w]
                              omega
                            rw [kb, E4] at ex78
                            rw [kb, E5] at ex103
                            rw [show x45 = s0 1 (a1.toNat + 2) - 1 by omega] at ex103
                            refine ⟨E5, Or.inr ⟨rfl, fun z => ?_⟩⟩
                            obtain ⟨b1, b2, b3, b4, b5, b6, b7, b8⟩ := z
                            obtain ⟨c1, c2⟩ := b5 (by omega)
                            omega
                          · skip
                            have E0 : s0 = s0 := rfl
                            obtain ⟨F1, W1⟩ : g31 = s0 ∧ x28 = s0 1 (x21 : Int).toNat := qg31
                            have E1 := F1.trans E0
                            rw [E0] at W1
                            obtain ⟨F2, W2⟩ : g43 = g31 ∧ x40 = g31 1 (x33 : Int).toNat := qg43
                            have E2 := F2.trans E1
                            rw [E1] at W2
                            obtain ⟨F3, W3⟩ : g57 = g43 ∧ x54 = g43 1 (x47 : Int).toNat := qg57
                            have E3 := F3.trans E2
                            rw [E2] at W3
                            obtain ⟨F4, W4⟩ : g69 = g57 ∧ x66 = g57 1 (x59 : Int).toNat := qg69
                            have E4 := F4.trans E3
                            rw [E3] at W4
                            obtain ⟨F5, W5⟩ : g94 = g69 ∧ x91 = 256 * g69 1 (x84 : Int).toNat + g69 1 ((x84 : Int).toNat + 1) := qg94
                            have E5 := F5.trans E4
                            rw [E4] at W5
                            rw [show (x21 : Int).toNat = a1.toNat + 1 by omega] at W1
                            rw [show (x33 : Int).toNat = a1.toNat + 2 by omega] at W2
                            rw [show (x47 : Int).toNat = a1.toNat + 3 by omega] at W3
                            rw [show (x59 : Int).toNat = a1.toNat + 4 by omega] at W4
                            rw [show (x84 : Int).toNat = a1.toNat + 5 by omega] at W5
                            have W5b : x91 = 256 * s0 1 (a1.toNat + 5) + s0 1 (a1.toNat + 6) := W5
                            have kb : b74 = (s0 0 3).toNat := by
                              have w := E4
                              have w2 : g69 0 3 = s0 0 3 := by rw [w]
                              omega
                            rw [kb, E4] at ex78
                            rw [kb, E5] at ex103
                            rw [show x45 = s0 1 (a1.toNat + 2) - 1 by omega] at ex103
                            refine ⟨rfl, by omega, by omega, by omega, by omega, by omega, by omega, by omega, fun z => by omega, fun z => ?_⟩
                            rw [← ex103]
                            exact ⟨by omega, by omega⟩
                      · skip
                        refine ⟨fun h38z => ?_, fun h38z => ?_⟩
                        · skip
                          have E0 : s0 = s0 := rfl
                          obtain ⟨F1, W1⟩ : g31 = s0 ∧ x28 = s0 1 (x21 : Int).toNat := qg31
                          have E1 := F1.trans E0
                          rw [E0] at W1
                          obtain ⟨F2, W2⟩ : g43 = g31 ∧ x40 = g31 1 (x33 : Int).toNat := qg43
                          have E2 := F2.trans E1
                          rw [E1] at W2
                          obtain ⟨F3, W3⟩ : g57 = g43 ∧ x54 = g43 1 (x47 : Int).toNat := qg57
                          have E3 := F3.trans E2
                          rw [E2] at W3
                          obtain ⟨F4, W4⟩ : g69 = g57 ∧ x66 = g57 1 (x59 : Int).toNat := qg69
                          have E4 := F4.trans E3
                          rw [E3] at W4
                          obtain ⟨F5, W5⟩ : g94 = g69 ∧ x91 = 256 * g69 1 (x84 : Int).toNat + g69 1 ((x84 : Int).toNat + 1) := qg94
                          have E5 := F5.trans E4
                          rw [E4] at W5
                          rw [show (x21 : Int).toNat = a1.toNat + 1 by omega] at W1
                          rw [show (x33 : Int).toNat = a1.toNat + 2 by omega] at W2
                          rw [show (x47 : Int).toNat = a1.toNat + 3 by omega] at W3
                          rw [show (x59 : Int).toNat = a1.toNat + 4 by omega] at W4
                          rw [show (x84 : Int).toNat = a1.toNat + 5 by omega] at W5
                          have W5b : x91 = 256 * s0 1 (a1.toNat + 5) + s0 1 (a1.toNat + 6) := W5
                          have kb : b74 = (s0 0 3).toNat := by
                            have w := E4
                            have w2 : g69 0 3 = s0 0 3 := by rw [w]
                            omega
                          rw [kb, E4] at ex78
                          refine ⟨E5, Or.inr ⟨rfl, fun z => ?_⟩⟩
                          obtain ⟨b1, b2, b3, b4, b5, b6, b7, b8⟩ := z
                          clear b6
                          first
                          | omega
                          | (have c := b5 (by omega)
                             omega)
                          | (have c := b4 (by omega)
                             omega)
                        · skip
                          have E0 : s0 = s0 := rfl
                          obtain ⟨F1, W1⟩ : g31 = s0 ∧ x28 = s0 1 (x21 : Int).toNat := qg31
                          have E1 := F1.trans E0
                          rw [E0] at W1
                          obtain ⟨F2, W2⟩ : g43 = g31 ∧ x40 = g31 1 (x33 : Int).toNat := qg43
                          have E2 := F2.trans E1
                          rw [E1] at W2
                          obtain ⟨F3, W3⟩ : g57 = g43 ∧ x54 = g43 1 (x47 : Int).toNat := qg57
                          have E3 := F3.trans E2
                          rw [E2] at W3
                          obtain ⟨F4, W4⟩ : g69 = g57 ∧ x66 = g57 1 (x59 : Int).toNat := qg69
                          have E4 := F4.trans E3
                          rw [E3] at W4
                          obtain ⟨F5, W5⟩ : g94 = g69 ∧ x91 = 256 * g69 1 (x84 : Int).toNat + g69 1 ((x84 : Int).toNat + 1) := qg94
                          have E5 := F5.trans E4
                          rw [E4] at W5
                          rw [show (x21 : Int).toNat = a1.toNat + 1 by omega] at W1
                          rw [show (x33 : Int).toNat = a1.toNat + 2 by omega] at W2
                          rw [show (x47 : Int).toNat = a1.toNat + 3 by omega] at W3
                          rw [show (x59 : Int).toNat = a1.toNat + 4 by omega] at W4
                          rw [show (x84 : Int).toNat = a1.toNat + 5 by omega] at W5
                          have W5b : x91 = 256 * s0 1 (a1.toNat + 5) + s0 1 (a1.toNat + 6) := W5
                          have kb : b74 = (s0 0 3).toNat := by
                            have w := E4
                            have w2 : g69 0 3 = s0 0 3 := by rw [w]
                            omega
                          rw [kb, E4] at ex78
                          refine ⟨rfl, by omega, by omega, by omega, by omega, by omega, by omega, by omega, fun z => by omega, fun z => ?_⟩
                          exfalso
                          omega
                · skip
                  have E0 : s0 = s0 := rfl
                  obtain ⟨F1, W1⟩ : g31 = s0 ∧ x28 = s0 1 (x21 : Int).toNat := qg31
                  have E1 := F1.trans E0
                  rw [E0] at W1
                  obtain ⟨F2, W2⟩ : g43 = g31 ∧ x40 = g31 1 (x33 : Int).toNat := qg43
                  have E2 := F2.trans E1
                  rw [E1] at W2
                  obtain ⟨F3, W3⟩ : g57 = g43 ∧ x54 = g43 1 (x47 : Int).toNat := qg57
                  have E3 := F3.trans E2
                  rw [E2] at W3
                  obtain ⟨F4, W4⟩ : g69 = g57 ∧ x66 = g57 1 (x59 : Int).toNat := qg69
                  have E4 := F4.trans E3
                  rw [E3] at W4
                  rw [show (x21 : Int).toNat = a1.toNat + 1 by omega] at W1
                  rw [show (x33 : Int).toNat = a1.toNat + 2 by omega] at W2
                  rw [show (x47 : Int).toNat = a1.toNat + 3 by omega] at W3
                  rw [show (x59 : Int).toNat = a1.toNat + 4 by omega] at W4
                  have kb : b74 = (s0 0 3).toNat := by
                    have w := E4
                    have w2 : g69 0 3 = s0 0 3 := by rw [w]
                    omega
                  rw [kb, E4] at ex78
                  refine ⟨E4, Or.inr ⟨rfl, fun z => ?_⟩⟩
                  obtain ⟨b1, b2, b3, b4, b5, b6, b7, b8⟩ := z
                  clear b6
                  first
                  | omega
                  | (have c := b5 (by omega)
                     omega)
                  | (have c := b4 (by omega)
                     omega)
              · skip
                have E0 : s0 = s0 := rfl
                obtain ⟨F1, W1⟩ : g31 = s0 ∧ x28 = s0 1 (x21 : Int).toNat := qg31
                have E1 := F1.trans E0
                rw [E0] at W1
                obtain ⟨F2, W2⟩ : g43 = g31 ∧ x40 = g31 1 (x33 : Int).toNat := qg43
                have E2 := F2.trans E1
                rw [E1] at W2
                obtain ⟨F3, W3⟩ : g57 = g43 ∧ x54 = g43 1 (x47 : Int).toNat := qg57
                have E3 := F3.trans E2
                rw [E2] at W3
                obtain ⟨F4, W4⟩ : g69 = g57 ∧ x66 = g57 1 (x59 : Int).toNat := qg69
                have E4 := F4.trans E3
                rw [E3] at W4
                rw [show (x21 : Int).toNat = a1.toNat + 1 by omega] at W1
                rw [show (x33 : Int).toNat = a1.toNat + 2 by omega] at W2
                rw [show (x47 : Int).toNat = a1.toNat + 3 by omega] at W3
                rw [show (x59 : Int).toNat = a1.toNat + 4 by omega] at W4
                have kb : b74 = (s0 0 3).toNat := by
                  have w := E4
                  have w2 : g69 0 3 = s0 0 3 := by rw [w]
                  omega
                rw [kb, E4] at ex78
                refine ⟨E4, Or.inr ⟨rfl, fun z => ?_⟩⟩
                obtain ⟨b1, b2, b3, b4, b5, b6, b7, b8⟩ := z
                clear b6
                first
                | omega
                | (have c := b5 (by omega)
                   omega)
                | (have c := b4 (by omega)
                   omega)
  · intro g v120_1 v120_3 v120_4 v120_6 rg o1 o2 o3 o4 o5 o6 o7 o8 hI
    obtain ⟨e1, e3, e4, e6, b1, b2, b3, b8, b4, b5⟩ := hI
    have hg := zFr_nl rg
    refine ⟨fun h9z => ?_, fun h9z => ?_⟩
    · skip
      refine ⟨fun h10z => ?_, fun h10z => ?_⟩
      · skip
        have E0 : g = s0 := hg
        exact ⟨E0, Or.inr ⟨rfl, fun z => z.2.2.2.2.2.2.1 ⟨by omega, by omega⟩⟩⟩
      · skip
        exact ⟨e1, e3, e4, e6, b1, b2, b3, b8, b4, b5, fun z => by omega⟩
    · skip
      exact ⟨e1, e3, e4, e6, b1, b2, b3, b8, b4, b5, fun z => by omega⟩
  · intro g v134_1 v134_3 v134_4 v134_6 rg o1 o2 o3 o4 o5 o6 o7 o8 hI
    obtain ⟨e1, e3, e4, e6, b1, b2, b3, b8, b4, b5, b7⟩ := hI
    have hg := zFr_nl rg
    refine ⟨fun h9z => ?_, fun h9z => ?_⟩
    · skip
      exact ⟨e1, e3, b1, b2, b3, b8, b4, b5, b7, by omega⟩
    · skip
      refine ⟨fun h10z => ?_, fun h10z => ?_⟩
      · skip
        exact ⟨e1, e3, b1, b2, b3, b8, b4, b5, b7, by omega⟩
      · skip
        have E0 : g = s0 := hg
        exact ⟨E0, Or.inl ⟨rfl, b1, b2, b3, b4, b5, fun z => by exfalso; omega, b7, b8⟩⟩
  · intro g v150_1 v150_3 rg o1 o2 o3 o4 hI
    obtain ⟨e1, e3, b1, b2, b3, b8, b4, b5, b7, b9⟩ := hI
    have hg := zFr_nl rg
    refine ⟨fun h5z => ?_, fun h5z => ?_⟩
    · skip
      have E0 : g = s0 := hg
      refine ⟨E0, Or.inr ⟨rfl, fun z => ?_⟩⟩
      have c := (z.2.2.2.2.2.1 b9).1
      omega
    · skip
      intro b6 eb6 eb6
      refine ⟨fun v g' => g' = g ∧ (v = 1 ∧ zxand (g (b6 + 6) (v150_1 : Int).toNat) 2 ≠ 0 ∨ v = 0 ∧ zxand (g (b6 + 6) (v150_1 : Int).toNat) 2 = 0), ?_, ?_⟩
      · skip
        exact w_260
      · skip
        intro x15 o8 o9 g18 rg18 qg18
        refine ⟨fun h12z => ?_, fun h12z => ?_⟩
        · skip
          have E0 : g = s0 := hg
          obtain ⟨F1, W1⟩ : g18 = g ∧ _ := qg18
          have E1 := F1.trans E0
          rw [E0] at W1
          have kb : b6 = (s0 0 3).toNat := by
            have w := E0
            have w2 : g 0 3 = s0 0 3 := by rw [w]
            omega
          have W1c := W1
          rw [show v150_1.toNat = (s0 1 a1.toNat).toNat by rw [e1, h0]] at W1c
          refine ⟨E1, Or.inr ⟨rfl, fun z => ?_⟩⟩
          have c := (z.2.2.2.2.2.1 b9).2
          rcases W1c with ⟨-, w⟩ | ⟨w, -⟩
          · rw [kb] at w
            exact w c
          · omega
        · skip
          have E0 : g = s0 := hg
          obtain ⟨F1, W1⟩ : g18 = g ∧ _ := qg18
          have E1 := F1.trans E0
          rw [E0] at W1
          have kb : b6 = (s0 0 3).toNat := by
            have w := E0
            have w2 : g 0 3 = s0 0 3 := by rw [w]
            omega
          have W1c := W1
          rw [show v150_1.toNat = (s0 1 a1.toNat).toNat by rw [e1, h0]] at W1c
          refine ⟨E1, Or.inl ⟨rfl, b1, b2, b3, b4, b5, fun _ => ⟨by omega, ?_⟩, b7, b8⟩⟩
          rcases W1c with ⟨z, -⟩ | ⟨-, z⟩
          · exfalso
            omega
          · rw [kb] at z
            exact z
set_option maxHeartbeats 4000000 in
theorem w_2111 {s0 : zF} {a0 : Int} (hT : ∀ k, 0 ≤ s0 1 k) (hc : s0 0 3 = 7 ∨ s0 0 3 = 28) (hb : s0 (s0 0 3).toNat 1 = s0 49 0) : p_2111 s0 a0 (fun v g => g = s0 ∧ (v = 1 ∧ IMAGE (s0 1) a0 (s0 49 0) (s0 (s0 0 3).toNat 2) (s0 ((s0 0 3).toNat + 9)) (s0 ((s0 0 3).toNat + 6)) ∨ v = 0 ∧ ¬ IMAGE (s0 1) a0 (s0 49 0) (s0 (s0 0 3).toNat 2) (s0 ((s0 0 3).toNat + 9)) (s0 ((s0 0 3).toNat + 6)))) := by
  refine ⟨fun g v77_2 v77_4 v77_5 => v77_2 = KNM (s0 49 0) ∧ IMB (s0 1) a0 (s0 49 0) ∧ SEEN (s0 1) v77_4 v77_5 ∧ IMP (s0 1) (s0 49 0) (s0 (s0 0 3).toNat 2) (s0 ((s0 0 3).toNat + 9)) (s0 ((s0 0 3).toNat + 6)) v77_5 ∧ v77_5 ≤ (s0 49 0), fun g v158_2 v158_5 => v158_2 = KNM (s0 49 0) ∧ IMB (s0 1) a0 (s0 49 0) ∧ IMP (s0 1) (s0 49 0) (s0 (s0 0 3).toNat 2) (s0 ((s0 0 3).toNat + 9)) (s0 ((s0 0 3).toNat + 6)) (s0 49 0) ∧ IMK (s0 1) (s0 49 0) v158_5 ∧ v158_5 ≤ v158_2, ?_, ?_, ?_⟩
  · skip
    intro x96 ex96 o2 o3 x100 ex100 x102 o5 o6 ex102 x106 ex106 x108 ex108 x110 ex110 x112 ex112 x114 ex114
    refine ⟨fun h13z => ?_, fun h13z => ?_⟩
    · skip
      have hk : KNM (s0 49 0) = x102 := by
        rw [← ex96]
        exact KNM_c (by omega) (by omega) (by omega) (by omega)
      have E0 : s0 = s0 := rfl
      refine ⟨E0, Or.inr ⟨rfl, fun z => ?_⟩⟩
      have c := z.1
      rw [hk] at c
      omega
    · skip
      intro x117 ex117
      refine ⟨fun v g' => g' = s0 ∧ v = s0 1 (x117 : Int).toNat, ?_, ?_⟩
      · skip
        exact w_2092
      · skip
        intro x124 o15 o16 g127 rg127 qg127 x129 ex129
        refine ⟨fun v g' => g' = g127 ∧ v = SEAL (g127 1) (x129 : Int).toNat, ?_, ?_⟩
        · skip
          exact w_2108 (by omega) (by rw [zSl_1]; omega)
        · skip
          intro x136 o20 o21 g139 rg139 qg139
          refine ⟨fun h24z => ?_, fun h24z => ?_⟩
          · skip
            have hk : KNM (s0 49 0) = x102 := by
              rw [← ex96]
              exact KNM_c (by omega) (by omega) (by omega) (by omega)
            have E0 : s0 = s0 := rfl
            obtain ⟨F1, W1⟩ : g127 = s0 ∧ x124 = s0 1 (x117 : Int).toNat := qg127
            have E1 := F1.trans E0
            rw [E0] at W1
            obtain ⟨F2, W2⟩ : g139 = g127 ∧ x136 = SEAL (g127 1) (x129 : Int).toNat := qg139
            have E2 := F2.trans E1
            rw [E1] at W2
            rw [show (x117 : Int).toNat = (a0 - 1).toNat by omega] at W1
            rw [show (x129 : Int).toNat = (a0 - 1).toNat by omega] at W2
            refine ⟨E2, Or.inr ⟨rfl, fun z => ?_⟩⟩
            have c := z.2.1
            omega
          · skip
            refine ⟨fun v g' => g' = g139 ∧ v = 256 * g139 1 (0 : Int).toNat + g139 1 ((0 : Int).toNat + 1), ?_, ?_⟩
            · skip
              exact w_2091 (by decide)
            · skip
              intro x147 o25 o26 g150 rg150 qg150
              refine ⟨fun h29z => ?_, fun h29z => ?_⟩
              · skip
                have hk : KNM (s0 49 0) = x102 := by
                  rw [← ex96]
                  exact KNM_c (by omega) (by omega) (by omega) (by omega)
                have E0 : s0 = s0 := rfl
                obtain ⟨F1, W1⟩ : g127 = s0 ∧ x124 = s0 1 (x117 : Int).toNat := qg127
                have E1 := F1.trans E0
                rw [E0] at W1
                obtain ⟨F2, W2⟩ : g139 = g127 ∧ x136 = SEAL (g127 1) (x129 : Int).toNat := qg139
                have E2 := F2.trans E1
                rw [E1] at W2
                obtain ⟨F3, W3⟩ : g150 = g139 ∧ x147 = 256 * g139 1 (0 : Int).toNat + g139 1 ((0 : Int).toNat + 1) := qg150
                have E3 := F3.trans E2
                rw [E2] at W3
                rw [show (x117 : Int).toNat = (a0 - 1).toNat by omega] at W1
                rw [show (x129 : Int).toNat = (a0 - 1).toNat by omega] at W2
                refine ⟨E3, Or.inr ⟨rfl, fun z => ?_⟩⟩
                have c := z.2.2.1
                have w : x147 = 256 * s0 1 0 + s0 1 1 := W3
                omega
              · skip
                have hk : KNM (s0 49 0) = x102 := by
                  rw [← ex96]
                  exact KNM_c (by omega) (by omega) (by omega) (by omega)
                have E0 : s0 = s0 := rfl
                obtain ⟨F1, W1⟩ : g127 = s0 ∧ x124 = s0 1 (x117 : Int).toNat := qg127
                have E1 := F1.trans E0
                rw [E0] at W1
                obtain ⟨F2, W2⟩ : g139 = g127 ∧ x136 = SEAL (g127 1) (x129 : Int).toNat := qg139
                have E2 := F2.trans E1
                rw [E1] at W2
                obtain ⟨F3, W3⟩ : g150 = g139 ∧ x147 = 256 * g139 1 (0 : Int).toNat + g139 1 ((0 : Int).toNat + 1) := qg150
                have E3 := F3.trans E2
                rw [E2] at W3
                rw [show (x117 : Int).toNat = (a0 - 1).toNat by omega] at W1
                rw [show (x129 : Int).toNat = (a0 - 1).toNat by omega] at W2
                have w3 : x147 = 256 * s0 1 0 + s0 1 (0 + 1) := W3
                have w4 : s0 1 (0 + 1) = s0 1 1 := rfl
                exact ⟨hk.symm, ⟨by rw [hk]; omega, by omega, by omega⟩, SEEN_0, IMP_0, by omega⟩
  · intro g v77_2 v77_4 v77_5 rg o1 o2 o3 o4 hI
    obtain ⟨k2, kb, ks, kp, kl⟩ := hI
    have hg := zFr_nl rg
    intro x1 ex1 o6 o7
    refine ⟨fun h8z => ?_, fun h8z => ?_⟩
    · skip
      intro x6 ex6 x8 ex8
      refine ⟨fun v g' => g' = g ∧ v = g 1 (x8 : Int).toNat, ?_, ?_⟩
      · skip
        exact w_2092
      · skip
        intro x15 o11 o12 g18 rg18 qg18 b20 eb20 eb20 x24 ex24 o18 o19
        refine ⟨fun h20z => ?_, fun h20z => ?_⟩
        · skip
          intro x30 ex30 x32 ex32 o23 o24
          refine ⟨fun h25z => ?_, fun h25z => ?_⟩
          · skip
            intro x36 ex36 x38 ex38
            refine ⟨fun v g' => g' = g18 ∧ (v = 1 ∧ (BON (g18 1) (x38 : Int).toNat (g18 (g18 0 3).toNat 2) (g18 ((g18 0 3).toNat + 9)) (g18 ((g18 0 3).toNat + 6))) ∨ v = 0 ∧ ¬(BON (g18 1) (x38 : Int).toNat (g18 (g18 0 3).toNat 2) (g18 ((g18 0 3).toNat + 9)) (g18 ((g18 0 3).toNat + 6)))), ?_, ?_⟩
            · skip
              have E0 : g = s0 := hg
              obtain ⟨F1, W1⟩ : g18 = g ∧ x15 = g 1 (x8 : Int).toNat := qg18
              have E1 := F1.trans E0
              rw [E0] at W1
              rw [show (x8 : Int).toNat = 2 + 7 * v77_5.toNat by omega] at W1
              rw [hg] at ex1
              have kq : b20 = (s0 0 3).toNat := by
                have w2 : g18 0 3 = s0 0 3 := by rw [E1]
                omega
              rw [kq, E1, hb] at ex24
              rw [E1]
              exact w_2112 hT (by omega) (by rw [W1]; congr 1; omega) hc
            · skip
              intro x45 o28 o29 g48 rg48 qg48
              refine ⟨fun h32z => ?_, fun h32z => ?_⟩
              · skip
                intro x52 ex52 x54 ex54 x55 ex55
                have E0 : g = s0 := hg
                obtain ⟨F1, W1⟩ : g18 = g ∧ x15 = g 1 (x8 : Int).toNat := qg18
                have E1 := F1.trans E0
                rw [E0] at W1
                obtain ⟨F2, W2⟩ : g48 = g18 ∧ _ := qg48
                have E2 := F2.trans E1
                rw [show (x8 : Int).toNat = 2 + 7 * v77_5.toNat by omega] at W1
                rw [hg] at ex1
                have kq : b20 = (s0 0 3).toNat := by
                  have w2 : g18 0 3 = s0 0 3 := by rw [E1]
                  omega
                rw [kq, E1, hb] at ex24
                rw [E1, show (x38 : Int).toNat = 2 + 7 * v77_5.toNat by omega] at W2
                have t0 := hT (2 + 7 * v77_5.toNat)
                have hbon : BON (s0 1) (2 + 7 * v77_5.toNat) (s0 (s0 0 3).toNat 2) (s0 ((s0 0 3).toNat + 9)) (s0 ((s0 0 3).toNat + 6)) := by
                  rcases W2 with ⟨-, w⟩ | ⟨w, -⟩
                  · exact w
                  · omega
                have hs := SEEN_s ks (by omega) W1 (by omega) (by omega)
                rw [← ex52, ← ex54] at hs
                have e1 : x55 = v77_5 + 1 := by omega
                rw [e1]
                refine ⟨k2, kb, hs, IMP_s kp (by omega) (by omega) hbon (fun q hq hqe => ?_), by omega⟩
                have hbit := (ks.2 x15.toNat (by omega)).mpr ⟨q, by omega, by omega⟩
                rw [show ((x15.toNat : Nat) : Int) = x15 by omega, ← ex30, ← ex32] at hbit
                omega
              · skip
                have E0 : g = s0 := hg
                obtain ⟨F1, W1⟩ : g18 = g ∧ x15 = g 1 (x8 : Int).toNat := qg18
                have E1 := F1.trans E0
                rw [E0] at W1
                obtain ⟨F2, W2⟩ : g48 = g18 ∧ _ := qg48
                have E2 := F2.trans E1
                rw [show (x8 : Int).toNat = 2 + 7 * v77_5.toNat by omega] at W1
                rw [hg] at ex1
                have kq : b20 = (s0 0 3).toNat := by
                  have w2 : g18 0 3 = s0 0 3 := by rw [E1]
                  omega
                rw [kq, E1, hb] at ex24
                refine ⟨E2, Or.inr ⟨rfl, fun z => ?_⟩⟩
                have hlt : ((v77_5.toNat : Nat) : Int) < s0 49 0 := by omega
                obtain ⟨c1, c2, c3⟩ := z.2.2.2.1 v77_5.toNat hlt
                rw [E1, show (x38 : Int).toNat = 2 + 7 * v77_5.toNat by omega] at W2
                rcases W2 with ⟨w, -⟩ | ⟨-, w⟩
                · omega
                · exact w c2
          · skip
            have E0 : g = s0 := hg
            obtain ⟨F1, W1⟩ : g18 = g ∧ x15 = g 1 (x8 : Int).toNat := qg18
            have E1 := F1.trans E0
            rw [E0] at W1
            rw [show (x8 : Int).toNat = 2 + 7 * v77_5.toNat by omega] at W1
            rw [hg] at ex1
            have kq : b20 = (s0 0 3).toNat := by
              have w2 : g18 0 3 = s0 0 3 := by rw [E1]
              omega
            rw [kq, E1, hb] at ex24
            refine ⟨E1, Or.inr ⟨rfl, fun z => ?_⟩⟩
            have hlt : ((v77_5.toNat : Nat) : Int) < s0 49 0 := by omega
            obtain ⟨c1, c2, c3⟩ := z.2.2.2.1 v77_5.toNat hlt
            have t0 := hT (2 + 7 * v77_5.toNat)
            have hbit : zxand (zxshr v77_4 ((x15.toNat : Nat) : Int)) 1 = 1 := by
              rw [show ((x15.toNat : Nat) : Int) = x15 by omega, ← ex30, ← ex32]
              omega
            obtain ⟨q, q1, q2⟩ := (ks.2 x15.toNat (by omega)).mp hbit
            exact c3 q (by omega) (by omega)
        · skip
          have E0 : g = s0 := hg
          obtain ⟨F1, W1⟩ : g18 = g ∧ x15 = g 1 (x8 : Int).toNat := qg18
          have E1 := F1.trans E0
          rw [E0] at W1
          rw [show (x8 : Int).toNat = 2 + 7 * v77_5.toNat by omega] at W1
          rw [hg] at ex1
          have kq : b20 = (s0 0 3).toNat := by
            have w2 : g18 0 3 = s0 0 3 := by rw [E1]
            omega
          rw [kq, E1, hb] at ex24
          refine ⟨E1, Or.inr ⟨rfl, fun z => ?_⟩⟩
          have hlt : ((v77_5.toNat : Nat) : Int) < s0 49 0 := by omega
          obtain ⟨c1, c2, c3⟩ := z.2.2.2.1 v77_5.toNat hlt
          omega
    · skip
      rw [hg] at ex1
      have ev : v77_5 = s0 49 0 := by omega
      rw [ev] at kp
      exact ⟨k2, kb, kp, IMK_0, by omega⟩
  · intro g v158_2 v158_5 rg o1 o2 o3 o4 hI
    obtain ⟨k2, kb, kp, kk, kl⟩ := hI
    have hg := zFr_nl rg
    refine ⟨fun h5z => ?_, fun h5z => ?_⟩
    · skip
      intro x58 ex58 o7 o8 x62 ex62 x64 ex64 x66 ex66 x68 ex68
      refine ⟨fun v g' => g' = g ∧ v = g 1 (x68 : Int).toNat, ?_, ?_⟩
      · skip
        exact w_2092
      · skip
        intro x75 o13 o14 g78 rg78 qg78
        refine ⟨fun h17z => ?_, fun h17z => ?_⟩
        · skip
          have E0 : g = s0 := hg
          obtain ⟨F1, W1⟩ : g78 = g ∧ x75 = g 1 (x68 : Int).toNat := qg78
          have E1 := F1.trans E0
          rw [E0] at W1
          rw [hg] at ex58
          rw [show (x68 : Int).toNat = 2 + 7 * (s0 49 0).toNat + 2 * v158_5.toNat by omega] at W1
          refine ⟨E1, Or.inr ⟨rfl, fun z => ?_⟩⟩
          have c := z.2.2.2.2 v158_5.toNat (by omega)
          omega
        · skip
          intro x81 ex81
          refine ⟨fun v g' => g' = g78 ∧ v = g78 1 (x81 : Int).toNat, ?_, ?_⟩
          · skip
            exact w_2092
          · skip
            intro x88 o19 o20 g91 rg91 qg91
            refine ⟨fun h23z => ?_, fun h23z => ?_⟩
            · skip
              have E0 : g = s0 := hg
              obtain ⟨F1, W1⟩ : g78 = g ∧ x75 = g 1 (x68 : Int).toNat := qg78
              have E1 := F1.trans E0
              rw [E0] at W1
              obtain ⟨F2, W2⟩ : g91 = g78 ∧ x88 = g78 1 (x81 : Int).toNat := qg91
              have E2 := F2.trans E1
              rw [E1] at W2
              rw [hg] at ex58
              rw [show (x68 : Int).toNat = 2 + 7 * (s0 49 0).toNat + 2 * v158_5.toNat by omega] at W1
              rw [show (x81 : Int).toNat = 2 + 7 * (s0 49 0).toNat + 2 * v158_5.toNat + 1 by omega] at W2
              refine ⟨E2, Or.inr ⟨rfl, fun z => ?_⟩⟩
              have c := z.2.2.2.2 v158_5.toNat (by omega)
              omega
            · skip
              intro x94 ex94
              have E0 : g = s0 := hg
              obtain ⟨F1, W1⟩ : g78 = g ∧ x75 = g 1 (x68 : Int).toNat := qg78
              have E1 := F1.trans E0
              rw [E0] at W1
              obtain ⟨F2, W2⟩ : g91 = g78 ∧ x88 = g78 1 (x81 : Int).toNat := qg91
              have E2 := F2.trans E1
              rw [E1] at W2
              rw [hg] at ex58
              rw [show (x68 : Int).toNat = 2 + 7 * (s0 49 0).toNat + 2 * v158_5.toNat by omega] at W1
              rw [show (x81 : Int).toNat = 2 + 7 * (s0 49 0).toNat + 2 * v158_5.toNat + 1 by omega] at W2
              have e1 : x94 = v158_5 + 1 := by omega
              rw [e1]
              exact ⟨k2, kb, kp, IMK_s kk (by omega) (by omega) (by omega), by omega⟩
    · skip
      have E0 : g = s0 := hg
      refine ⟨E0, Or.inl ⟨rfl, IMAGE_mk kb kp ?_⟩⟩
      rw [← k2, show v158_2 = v158_5 by omega]
      exact kk
set_option maxHeartbeats 4000000 in
theorem w_2110 {s0 : zF} (hT : ∀ k, 0 ≤ s0 1 k) (hc : s0 0 3 = 7 ∨ s0 0 3 = 28) (hb : s0 (s0 0 3).toNat 1 = s0 49 0) : p_2110 s0 (fun v _ => v = 1 ∧ IMAGE (s0 1) (s0 0 1) (s0 49 0) (s0 (s0 0 3).toNat 2) (s0 ((s0 0 3).toNat + 9)) (s0 ((s0 0 3).toNat + 6)) ∨ v = 0 ∧ ¬ IMAGE (s0 1) (s0 0 1) (s0 49 0) (s0 (s0 0 3).toNat 2) (s0 ((s0 0 3).toNat + 9)) (s0 ((s0 0 3).toNat + 6))) := by
  refine ⟨fun g v50_2 => IMAGE (s0 1) (s0 0 1) (s0 49 0) (s0 (s0 0 3).toNat 2) (s0 ((s0 0 3).toNat + 9)) (s0 ((s0 0 3).toNat + 6)), fun g v192_2 => IMAGE (s0 1) (s0 0 1) (s0 49 0) (s0 (s0 0 3).toNat 2) (s0 ((s0 0 3).toNat + 9)) (s0 ((s0 0 3).toNat + 6)), ?_, ?_, ?_⟩
  · skip
    intro x298 ex298 o2 o3 g306 eg306
    refine ⟨fun v g' => g' = g306 ∧ (v = 1 ∧ IMAGE (g306 1) x298 (g306 49 0) (g306 (g306 0 3).toNat 2) (g306 ((g306 0 3).toNat + 9)) (g306 ((g306 0 3).toNat + 6)) ∨ v = 0 ∧ ¬ IMAGE (g306 1) x298 (g306 49 0) (g306 (g306 0 3).toNat 2) (g306 ((g306 0 3).toNat + 9)) (g306 ((g306 0 3).toNat + 6))), ?_, ?_⟩
    · skip
      have u1 : g306 1 = s0 1 := by rw [eg306, zup_na (by decide)]
      have u3 : g306 0 3 = s0 0 3 := by rw [eg306, zup_ne (Or.inr (by decide))]
      have u49 : g306 49 0 = s0 49 0 := by rw [eg306, zup_ne (Or.inl (by decide))]
      have u2 : g306 (s0 0 3).toNat = s0 (s0 0 3).toNat := by rw [eg306, zup_na (by omega)]
      have u9 : g306 ((s0 0 3).toNat + 9) = s0 ((s0 0 3).toNat + 9) := by rw [eg306, zup_na (by omega)]
      have u6 : g306 ((s0 0 3).toNat + 6) = s0 ((s0 0 3).toNat + 6) := by rw [eg306, zup_na (by omega)]
      exact w_2111 (by rw [u1]; exact hT) (by rw [u3]; exact hc) (by rw [u3, u2, u49]; exact hb)
    · skip
      intro x312 o5 o6 g315 rg315 qg315
      refine ⟨fun h9z => ?_, fun h9z => ?_⟩
      · skip
        intro b318 eb318 eb318
        intro g327 rg327
        refine ⟨fun v g' => g' = g327 ∧ v = 256 * g327 1 (0 : Int).toNat + g327 1 ((0 : Int).toNat + 1), ?_, ?_⟩
        · skip
          exact w_2091 (by omega)
        · skip
          intro x334 o13 o14 g337 rg337 qg337 g343 eg343
          have u1 : g306 1 = s0 1 := by rw [eg306, zup_na (by decide)]
          have u3 : g306 0 3 = s0 0 3 := by rw [eg306, zup_ne (Or.inr (by decide))]
          have u49 : g306 49 0 = s0 49 0 := by rw [eg306, zup_ne (Or.inl (by decide))]
          have u2 : g306 (s0 0 3).toNat = s0 (s0 0 3).toNat := by rw [eg306, zup_na (by omega)]
          have u9 : g306 ((s0 0 3).toNat + 9) = s0 ((s0 0 3).toNat + 9) := by rw [eg306, zup_na (by omega)]
          have u6 : g306 ((s0 0 3).toNat + 6) = s0 ((s0 0 3).toNat + 6) := by rw [eg306, zup_na (by omega)]
          have W : _ ∧ _ := qg315
          obtain ⟨-, W⟩ := W
          rw [u1, u3, u49, u2, u9, u6, ex298] at W
          rcases W with ⟨-, w⟩ | ⟨w, -⟩
          · exact w
          · exfalso
            omega
      · skip
        intro g347 rg347
        have u1 : g306 1 = s0 1 := by rw [eg306, zup_na (by decide)]
        have u3 : g306 0 3 = s0 0 3 := by rw [eg306, zup_ne (Or.inr (by decide))]
        have u49 : g306 49 0 = s0 49 0 := by rw [eg306, zup_ne (Or.inl (by decide))]
        have u2 : g306 (s0 0 3).toNat = s0 (s0 0 3).toNat := by rw [eg306, zup_na (by omega)]
        have u9 : g306 ((s0 0 3).toNat + 9) = s0 ((s0 0 3).toNat + 9) := by rw [eg306, zup_na (by omega)]
        have u6 : g306 ((s0 0 3).toNat + 6) = s0 ((s0 0 3).toNat + 6) := by rw [eg306, zup_na (by omega)]
        have W : _ ∧ _ := qg315
        obtain ⟨-, W⟩ := W
        rw [u1, u3, u49, u2, u9, u6, ex298] at W
        refine Or.inr ⟨rfl, ?_⟩
        rcases W with ⟨w, -⟩ | ⟨-, w⟩
        · exfalso
          omega
        · exact w
  · intro g v50_2 rg o1 o2 hI
    intro x1 ex1 o4 o5
    refine ⟨fun h6z => ?_, fun h6z => ?_⟩
    · skip
      intro x6 ex6 x8 ex8
      refine ⟨fun v g' => g' = g ∧ v = g 1 (x8 : Int).toNat, ?_, ?_⟩
      · skip
        exact w_2092
      · skip
        intro x15 o9 o10 g18 rg18 qg18 o13 g25 eg25 x26 ex26
        refine ⟨fun v g' => g' = g25 ∧ v = g25 1 (x26 : Int).toNat, ?_, ?_⟩
        · skip
          exact w_2092
        · skip
          intro x33 o16 o17 g36 rg36 qg36
          refine ⟨fun h20z => ?_, fun h20z => ?_⟩
          · skip
            intro g43 eg43 x44 ex44
            refine ⟨fun v g' => g' = g43 ∧ v = g43 1 (x44 : Int).toNat, ?_, ?_⟩
            · skip
              exact w_2092
            · skip
              intro x51 o23 o24 g54 rg54 qg54 x56 ex56 o28 g63 eg63 x64 ex64
              refine ⟨fun v g' => g' = g63 ∧ v = g63 1 (x64 : Int).toNat, ?_, ?_⟩
              · skip
                exact w_2092
              · skip
                intro x71 o31 o32 g74 rg74 qg74 g80 eg80 x81 ex81
                refine ⟨fun v g' => g' = g80 ∧ v = g80 1 (x81 : Int).toNat, ?_, ?_⟩
                · skip
                  exact w_2092
                · skip
                  intro x88 o37 o38 g91 rg91 qg91 x93 ex93 o42 g100 eg100 x101 ex101
                  refine ⟨fun v g' => g' = g100 ∧ v = 256 * g100 1 (x101 : Int).toNat + g100 1 ((x101 : Int).toNat + 1), ?_, ?_⟩
                  · skip
                    exact w_2091 (by omega)
                  · skip
                    intro x108 o45 o46 g111 rg111 qg111 g117 eg117 x118 ex118
                    exact hI
          · skip
            intro g124 eg124 x125 ex125
            refine ⟨fun v g' => g' = g124 ∧ v = g124 1 (x125 : Int).toNat, ?_, ?_⟩
            · skip
              exact w_2092
            · skip
              intro x132 o23 o24 g135 rg135 qg135 x137 ex137 o28 g144 eg144 x145 ex145
              refine ⟨fun v g' => g' = g144 ∧ v = g144 1 (x145 : Int).toNat, ?_, ?_⟩
              · skip
                exact w_2092
              · skip
                intro x152 o31 o32 g155 rg155 qg155 g161 eg161 x162 ex162
                refine ⟨fun v g' => g' = g161 ∧ v = g161 1 (x162 : Int).toNat, ?_, ?_⟩
                · skip
                  exact w_2092
                · skip
                  intro x169 o37 o38 g172 rg172 qg172 x174 ex174 o42 g181 eg181 x182 ex182
                  refine ⟨fun v g' => g' = g181 ∧ v = 256 * g181 1 (x182 : Int).toNat + g181 1 ((x182 : Int).toNat + 1), ?_, ?_⟩
                  · skip
                    exact w_2091 (by omega)
                  · skip
                    intro x189 o45 o46 g192 rg192 qg192 g198 eg198 x199 ex199
                    exact hI
    · skip
      exact hI
  · intro g v192_2 rg o1 o2 hI
    intro x201 ex201 o4 o5 x205 ex205
    refine ⟨fun h7z => ?_, fun h7z => ?_⟩
    · skip
      intro x208 ex208 x210 ex210 x212 ex212 x214 ex214
      refine ⟨fun v g' => g' = g ∧ v = g 1 (x214 : Int).toNat, ?_, ?_⟩
      · skip
        exact w_2092
      · skip
        intro x221 o12 o13 g224 rg224 qg224
        refine ⟨fun h16z => ?_, fun h16z => ?_⟩
        · skip
          intro g231 eg231 x232 ex232
          refine ⟨fun v g' => g' = g231 ∧ v = g231 1 (x232 : Int).toNat, ?_, ?_⟩
          · skip
            exact w_2092
          · skip
            intro x239 o19 o20 g242 rg242 qg242 g248 eg248 x249 ex249
            exact hI
        · skip
          intro g255 eg255 x256 ex256
          refine ⟨fun v g' => g' = g255 ∧ v = g255 1 (x256 : Int).toNat, ?_, ?_⟩
          · skip
            exact w_2092
          · skip
            intro x263 o19 o20 g266 rg266 qg266 g272 eg272 x273 ex273
            exact hI
    · skip
      intro g280 rg280 g286 eg286 x287 ex287 x292 ex292 g297 eg297
      exact Or.inl ⟨rfl, hI⟩
