/-! pure proofs (wip/safe/vcp.py) -/
set_option maxHeartbeats 4000000 in
theorem v_2427 {s0 : zF} {a0 : Int} : b_2427 s0 a0 (fun v g => g = s0 ∧ (v = 1 → IMG s0)) := by
  refine ⟨fun n g v27_1 v27_2 v27_3 => n = (100000 - v27_3).toNat, fun n g v93_3 => n = (50 * (20 - v93_3) + 1000).toNat ∧ (∀ p : Nat, (p : Int) < v93_3 → IB s0 (2 + 7 * p)) ∧ (∀ p q : Nat, q < p → (p : Int) < v93_3 → s0 387 (2 + 7 * q) ≠ s0 387 (2 + 7 * p)), fun n g v119_3 v119_4 => n = (50 * (20 - v119_3) + 990 - v119_4).toNat ∧ v119_3 < s0 388 (s0 386 12).toNat ∧ (∀ p : Nat, (p : Int) < v119_3 → IB s0 (2 + 7 * p)) ∧ (∀ p q : Nat, q < p → (p : Int) < v119_3 → s0 387 (2 + 7 * q) ≠ s0 387 (2 + 7 * p)) ∧ IB s0 (2 + 7 * v119_3.toNat) ∧ (∀ q : Nat, (q : Int) < v119_4 → s0 387 (2 + 7 * q) ≠ s0 387 (2 + 7 * v119_3.toNat)) ∧ v119_4 ≤ 12, fun n g v167_3 => n = (900 - v167_3).toNat ∧ IMG s0, ?_, ?_, ?_, ?_, ?_⟩
  · skip
    intro x121 ex121 fx121 gx121
    intro x128 ex128 fx128 gx128
    intro x129 ex129
    intro x131 ex131
    intro x136 hx1361 hx1362 g139 rg139 
    intro x141 ex141
    intro x143 ex143
    refine ⟨fun h145 => ?_, fun h145 => ?_⟩
    · skip
      have hg1 : g139 = s0 := (zFr_nil rg139)
      exact ⟨hg1, fun z => absurd z (by decide)⟩
    · skip
      exact ⟨_, rfl⟩
  · intro n g v27_1 v27_2 v27_3 rg qv27_10 qv27_11 qv27_20 qv27_21 qv27_30 qv27_31 hI
    have hn := hI
    have hg := zFr_nil rg
    intro x1 ex1
    refine ⟨fun h3 => ?_, fun h3 => ?_⟩
    · skip
      intro x4 ex4
      intro x9 ex9 fx9 gx9
      intro x10 ex10
      intro x12 ex12 fx12 gx12
      intro x16 ex16
      exact ⟨_, by omega, rfl⟩
    · skip
      intro x18 ex18
      intro x23 ex23 fx23 gx23
      refine ⟨fun h24 => ?_, fun h24 => ?_⟩
      · skip
        exact ⟨hg, fun z => absurd z (by decide)⟩
      · skip
        intro x28 ex28 fx28 gx28
        intro x29 
        intro x33 ex33 fx33 gx33
        intro x34 
        refine ⟨fun h35 => ?_, fun h35 => ?_⟩
        · skip
          exact ⟨hg, fun z => absurd z (by decide)⟩
        · skip
          exact ⟨_, by omega, rfl, fun p hp => by omega, fun p q h1 h2 => by omega⟩
  · intro n g v93_3 rg qv93_30 qv93_31 hI
    obtain ⟨hn, p1, p2⟩ := hI
    have hg := zFr_nil rg
    intro x36 ex36 fx36 gx36
    intro x43 ex43 fx43 gx43
    refine ⟨fun h44 => ?_, fun h44 => ?_⟩
    · skip
      intro x45 ex45
      intro x47 ex47
      refine ⟨fun v g' => g' = g ∧ (v = 1 → IB g (x47 : Int).toNat), ?_, ?_⟩
      · skip
        exact v_2429 (by omega)
      · skip
        intro x54 hx541 hx542 g57 rg57 qg57
        refine ⟨fun h59 => ?_, fun h59 => ?_⟩
        · skip
          have eN : x43 = s0 388 (s0 386 12).toNat := by
            rw [ex43, ex36, hg]
          obtain ⟨q1, q2⟩ := (qg57 : g57 = g ∧ _)
          have q3 := q2 (by omega)
          rw [hg, show x47.toNat = 2 + 7 * v93_3.toNat by omega] at q3
          exact ⟨_, by omega, rfl, by omega, p1, p2, q3, fun q hq => by omega, by decide⟩
        · skip
          have hg1 : g57 = s0 := (qg57 : g57 = g ∧ _).1.trans hg
          exact ⟨hg1, fun z => absurd z (by decide)⟩
    · skip
      have eN : x43 = s0 388 (s0 386 12).toNat := by
        rw [ex43, ex36, hg]
      exact ⟨_, by omega, rfl, fun p hp => p1 p (by omega), fun p q h1 h2 => p2 p q h1 (by omega)⟩
  · intro n g v119_3 v119_4 rg qv119_30 qv119_31 qv119_40 qv119_41 hI
    obtain ⟨hn, hN, p1, p2, p3, p4, p5⟩ := hI
    have hg := zFr_nil rg
    refine ⟨fun h60 => ?_, fun h60 => ?_⟩
    · skip
      intro x61 ex61
      intro x63 ex63
      intro x68 ex68 fx68 gx68
      intro x69 ex69
      intro x71 ex71
      intro x76 ex76 fx76 gx76
      refine ⟨fun h77 => ?_, fun h77 => ?_⟩
      · skip
        intro x78 ex78
        refine ⟨_, ?_, rfl, hN, p1, p2, p3, fun q hq => ?_, by omega⟩
        · omega
        · by_cases z : (q : Int) = v119_4
          · rw [← hg, show 2 + 7 * q = x63.toNat by omega, show 2 + 7 * v119_3.toNat = x71.toNat by omega, ← ex68, ← ex76]
            omega
          · exact p4 q (by omega)
      · skip
        exact ⟨hg, fun z => absurd z (by decide)⟩
    · skip
      intro x80 ex80
      refine ⟨_, ?_, rfl, fun p hp => ?_, fun p q hq hp => ?_⟩
      · omega
      · by_cases z : (p : Int) = v119_3
        · rw [show p = v119_3.toNat by omega]
          exact p3
        · exact p1 p (by omega)
      · by_cases z : (p : Int) = v119_3
        · rw [show p = v119_3.toNat by omega]
          exact p4 q (by omega)
        · exact p2 p q hq (by omega)
  · intro n g v167_3 rg qv167_30 qv167_31 hI
    obtain ⟨hn, hi⟩ := hI
    have hg := zFr_nil rg
    intro x85 hx851 hx852 g88 rg88 
    refine ⟨fun h90 => ?_, fun h90 => ?_⟩
    · skip
      intro x91 ex91 fx91 gx91
      intro x98 ex98 fx98 gx98
      intro x99 ex99
      intro x101 ex101
      intro x103 ex103
      intro x105 ex105
      intro x110 ex110 fx110 gx110
      refine ⟨fun h111 => ?_, fun h111 => ?_⟩
      · skip
        have hg1 : g88 = s0 := (zFr_nil rg88).trans hg
        exact ⟨hg1, fun z => absurd z (by decide)⟩
      · skip
        intro x112 ex112
        intro x117 ex117 fx117 gx117
        refine ⟨fun h118 => ?_, fun h118 => ?_⟩
        · skip
          have hg1 : g88 = s0 := (zFr_nil rg88).trans hg
          exact ⟨hg1, fun z => absurd z (by decide)⟩
        · skip
          intro x119 ex119
          exact ⟨_, by omega, rfl, hi⟩
    · skip
      have hg1 : g88 = s0 := (zFr_nil rg88).trans hg
      exact ⟨hg1, fun _ => hi⟩
