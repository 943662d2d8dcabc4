/-! partial proofs of the reference (wip/safe/vcp.py) -/
set_option maxHeartbeats 4000000 in
theorem w_2310 {s0 : zF} (h8 : s0 386 8 = 0) (h2 : 0 ≤ s0 386 2) (h5 : 0 ≤ s0 386 5) : p_2310 s0 (fun g => AH (s0 387) (s0 386 2).toNat (s0 386 5).toNat g) := by
  refine ⟨fun g v5_1 => AB (s0 387) (s0 386 2).toNat (s0 386 5).toNat v5_1.toNat ∧ g 386 8 = 0, fun g v41_1 => AB (s0 387) (s0 386 2).toNat (s0 386 5).toNat v41_1.toNat ∧ g 386 8 = 0 ∧ (v41_1.toNat < (s0 386 2).toNat → kof (s0 387 v41_1.toNat) ≠ 0), fun g v85_1 v85_2 v85_3 => AB (s0 387) (s0 386 2).toNat (s0 386 5).toNat v85_1.toNat ∧ g 386 4 = v85_1 ∧ v85_1.toNat < (s0 386 2).toNat ∧ g 386 8 = 0 ∧ kof (s0 387 v85_1.toNat) ≠ 0 ∧ (v85_2 = 1 ∧ v85_3 = 0 ∧ kof (s0 387 v85_1.toNat) = 2 ∨ v85_2 = 0 ∧ v85_3 = 1 ∧ kof (s0 387 v85_1.toNat) = 4 ∨ v85_2 = 0 ∧ v85_3 = 0 ∧ ¬ run (kof (s0 387 v85_1.toNat))), fun g v131_1 v131_2 v131_3 => AB (s0 387) (s0 386 2).toNat (s0 386 5).toNat v131_1.toNat ∧ g 386 4 = v131_1 ∧ v131_1.toNat < (s0 386 2).toNat ∧ kof (s0 387 v131_1.toNat) ≠ 0 ∧ (v131_2 = 1 ∧ v131_3 = 0 ∧ kof (s0 387 v131_1.toNat) = 2 ∨ v131_2 = 0 ∧ v131_3 = 1 ∧ kof (s0 387 v131_1.toNat) = 4 ∨ v131_2 = 0 ∧ v131_3 = 0 ∧ ¬ run (kof (s0 387 v131_1.toNat))) ∧ (run (kof (s0 387 v131_1.toNat)) ∧ adjT (s0 387) v131_1.toNat ∧ g 386 8 = 1 ∧ g 386 9 = v131_1 ∨ ¬(run (kof (s0 387 v131_1.toNat)) ∧ adjT (s0 387) v131_1.toNat) ∧ g 386 8 = 0), fun g v200_1 v200_2 v200_3 v200_4 v200_5 => ∃ (a : Nat) (r : Int), ARun (s0 387) (s0 386 2).toNat (s0 386 5).toNat a r g v200_1.toNat v200_1.toNat v200_1.toNat ∧ AFt (s0 387) a (mxl r) g v200_1.toNat ∧ (v200_2 = 1 ∧ v200_3 = 0 ∧ r = 2 ∨ v200_2 = 0 ∧ v200_3 = 1 ∧ r = 4) ∧ v200_4 = (mxl r : Int) ∧ v200_5 = v200_1 - a, fun g v252_1 v252_2 v252_3 v252_4 v252_5 => ∃ (a : Nat) (r : Int), ARun (s0 387) (s0 386 2).toNat (s0 386 5).toNat a r g v252_1.toNat v252_1.toNat v252_1.toNat ∧ AFt (s0 387) a (mxl r) g (v252_1.toNat + 1) ∧ (v252_2 = 1 ∧ v252_3 = 0 ∧ r = 2 ∨ v252_2 = 0 ∧ v252_3 = 1 ∧ r = 4) ∧ v252_4 = (mxl r : Int) ∧ v252_5 = v252_1 - a ∧ v252_1.toNat < (s0 386 2).toNat ∧ kof (s0 387 v252_1.toNat) = r, fun g v282_1 v282_2 v282_3 v282_4 v282_5 => ∃ (a : Nat) (r : Int), ARun (s0 387) (s0 386 2).toNat (s0 386 5).toNat a r g v282_1.toNat (v282_1.toNat + 1) v282_1.toNat ∧ AFt (s0 387) a (mxl r) g (v282_1.toNat + 1) ∧ (v282_2 = 1 ∧ v282_3 = 0 ∧ r = 2 ∨ v282_2 = 0 ∧ v282_3 = 1 ∧ r = 4) ∧ v282_4 = (mxl r : Int) ∧ v282_5 = v282_1 - a ∧ v282_1.toNat < (s0 386 2).toNat ∧ kof (s0 387 v282_1.toNat) = r, fun g v314_1 v314_2 v314_3 v314_4 v314_5 => ∃ (a : Nat) (r : Int), ARun (s0 387) (s0 386 2).toNat (s0 386 5).toNat a r g v314_1.toNat (v314_1.toNat + 1) (v314_1.toNat + 1) ∧ AFt (s0 387) a (mxl r) g (v314_1.toNat + 1) ∧ (v314_2 = 1 ∧ v314_3 = 0 ∧ r = 2 ∨ v314_2 = 0 ∧ v314_3 = 1 ∧ r = 4) ∧ v314_4 = (mxl r : Int) ∧ v314_5 = v314_1 - a ∧ v314_1.toNat < (s0 386 2).toNat ∧ kof (s0 387 v314_1.toNat) = r, fun g v323_1 => ∃ (a : Nat) (r : Int), ARun (s0 387) (s0 386 2).toNat (s0 386 5).toNat a r g v323_1.toNat v323_1.toNat v323_1.toNat ∧ AFt (s0 387) a (mxl r) g v323_1.toNat ∧ (v323_1.toNat < (s0 386 2).toNat → kof (s0 387 v323_1.toNat) ≠ r), ?_, ?_, ?_, ?_, ?_, ?_, ?_, ?_, ?_, ?_⟩
  · skip
    intro x345 ex345 o2 o3
    exact ⟨⟨by omega, Or.inr (by omega), fun k h1 h2 => absurd h2 (by omega)⟩, h8⟩
  · intro g v5_1 rg o1 o2 hI
    obtain ⟨hab, hf⟩ := hI
    have t387 : g 387 = s0 387 := rg.a (by decide)
    have t2 : g 386 2 = s0 386 2 := rg.s (by decide)
    intro x1 ex1 o4 o5
    refine ⟨fun h6z => ?_, fun h6z => ?_⟩
    · skip
      intro x9 ex9 o8 o9
      refine ⟨fun h10z => ?_, fun h10z => ?_⟩
      · skip
        refine ⟨fun h11z => ?_, fun h11z => ?_⟩
        · skip
          have bx9 : x9 = s0 387 v5_1.toNat := by
            rw [ex9, t387]
          refine ⟨hab, hf, fun hl hz => ?_⟩
          have := kof_0.mp hz
          omega
        · skip
          intro x15 ex15
          have bx9 : x9 = s0 387 v5_1.toNat := by
            rw [ex9, t387]
          have hl : v5_1.toNat < (s0 386 2).toNat := by omega
          refine ⟨?_, hf⟩
          rw [show x15.toNat = v5_1.toNat + 1 by omega]
          exact AB_up hab hl (kof_0.mpr (by omega))
      · skip
        intro x17 ex17
        have bx9 : x9 = s0 387 v5_1.toNat := by
          rw [ex9, t387]
        have hl : v5_1.toNat < (s0 386 2).toNat := by omega
        refine ⟨?_, hf⟩
        rw [show x17.toNat = v5_1.toNat + 1 by omega]
        exact AB_up hab hl (kof_0.mpr (by omega))
    · skip
      exact ⟨hab, hf, fun hl => absurd hl (by omega)⟩
  · intro g v41_1 rg o1 o2 hI
    obtain ⟨hab, hf, hk0⟩ := hI
    have t387 : g 387 = s0 387 := rg.a (by decide)
    have t2 : g 386 2 = s0 386 2 := rg.s (by decide)
    intro g23 eg23 g28 eg28 g33 eg33 x34 ex34 o7 o8
    refine ⟨fun h9z => ?_, fun h9z => ?_⟩
    · skip
      intro x42 ex42 o11 o12
      refine ⟨fun h13z => ?_, fun h13z => ?_⟩
      · skip
        refine ⟨fun h14z => ?_, fun h14z => ?_⟩
        · skip
          have c4 : g33 386 4 = v41_1 := by
            rw [eg33, zup_ne (Or.inr (by decide)), eg28, zup_ne (Or.inr (by decide)), eg23, zup_eq]
          have c5 : g33 386 5 = v41_1 := by
            rw [eg33, zup_ne (Or.inr (by decide)), eg28, zup_eq]
          have c3 : g33 386 3 = 0 := by
            rw [eg33, zup_eq]
          have c8 : g33 386 8 = 0 := by
            rw [eg33, zup_ne (Or.inr (by decide)), eg28, zup_ne (Or.inr (by decide)), eg23, zup_ne (Or.inr (by decide))]
            exact hf
          have c387 : g33 387 = s0 387 := by
            rw [eg33, zup_na (by decide), eg28, zup_na (by decide), eg23, zup_na (by decide)]
            exact t387
          have c2 : g33 386 2 = s0 386 2 := by
            rw [eg33, zup_ne (Or.inr (by decide)), eg28, zup_ne (Or.inr (by decide)), eg23, zup_ne (Or.inr (by decide))]
            exact t2
          have b42 : x42 = s0 387 v41_1.toNat := by
            rw [ex42, c387]
          have hl : v41_1.toNat < (s0 386 2).toNat := by omega
          exact ⟨hab, c4, hl, c8, hk0 hl, Or.inr (Or.inr ⟨rfl, rfl, fun z => by
              rcases z with z | z
              · have := kof_2 z
                unfold isL at this
                omega
              · have := kof_4 z
                unfold isD at this
                omega⟩)⟩
        · skip
          refine ⟨fun h15z => ?_, fun h15z => ?_⟩
          · skip
            have c4 : g33 386 4 = v41_1 := by
              rw [eg33, zup_ne (Or.inr (by decide)), eg28, zup_ne (Or.inr (by decide)), eg23, zup_eq]
            have c5 : g33 386 5 = v41_1 := by
              rw [eg33, zup_ne (Or.inr (by decide)), eg28, zup_eq]
            have c3 : g33 386 3 = 0 := by
              rw [eg33, zup_eq]
            have c8 : g33 386 8 = 0 := by
              rw [eg33, zup_ne (Or.inr (by decide)), eg28, zup_ne (Or.inr (by decide)), eg23, zup_ne (Or.inr (by decide))]
              exact hf
            have c387 : g33 387 = s0 387 := by
              rw [eg33, zup_na (by decide), eg28, zup_na (by decide), eg23, zup_na (by decide)]
              exact t387
            have c2 : g33 386 2 = s0 386 2 := by
              rw [eg33, zup_ne (Or.inr (by decide)), eg28, zup_ne (Or.inr (by decide)), eg23, zup_ne (Or.inr (by decide))]
              exact t2
            have b42 : x42 = s0 387 v41_1.toNat := by
              rw [ex42, c387]
            have hl : v41_1.toNat < (s0 386 2).toNat := by omega
            exact ⟨hab, c4, hl, c8, hk0 hl, Or.inr (Or.inr ⟨rfl, rfl, fun z => by
                rcases z with z | z
                · have := kof_2 z
                  unfold isL at this
                  omega
                · have := kof_4 z
                  unfold isD at this
                  omega⟩)⟩
          · skip
            have c4 : g33 386 4 = v41_1 := by
              rw [eg33, zup_ne (Or.inr (by decide)), eg28, zup_ne (Or.inr (by decide)), eg23, zup_eq]
            have c5 : g33 386 5 = v41_1 := by
              rw [eg33, zup_ne (Or.inr (by decide)), eg28, zup_eq]
            have c3 : g33 386 3 = 0 := by
              rw [eg33, zup_eq]
            have c8 : g33 386 8 = 0 := by
              rw [eg33, zup_ne (Or.inr (by decide)), eg28, zup_ne (Or.inr (by decide)), eg23, zup_ne (Or.inr (by decide))]
              exact hf
            have c387 : g33 387 = s0 387 := by
              rw [eg33, zup_na (by decide), eg28, zup_na (by decide), eg23, zup_na (by decide)]
              exact t387
            have c2 : g33 386 2 = s0 386 2 := by
              rw [eg33, zup_ne (Or.inr (by decide)), eg28, zup_ne (Or.inr (by decide)), eg23, zup_ne (Or.inr (by decide))]
              exact t2
            have b42 : x42 = s0 387 v41_1.toNat := by
              rw [ex42, c387]
            have hl : v41_1.toNat < (s0 386 2).toNat := by omega
            exact ⟨hab, c4, hl, c8, hk0 hl, Or.inr (Or.inl ⟨rfl, rfl, kof_D (by omega)⟩)⟩
      · skip
        refine ⟨fun h14z => ?_, fun h14z => ?_⟩
        · skip
          have c4 : g33 386 4 = v41_1 := by
            rw [eg33, zup_ne (Or.inr (by decide)), eg28, zup_ne (Or.inr (by decide)), eg23, zup_eq]
          have c5 : g33 386 5 = v41_1 := by
            rw [eg33, zup_ne (Or.inr (by decide)), eg28, zup_eq]
          have c3 : g33 386 3 = 0 := by
            rw [eg33, zup_eq]
          have c8 : g33 386 8 = 0 := by
            rw [eg33, zup_ne (Or.inr (by decide)), eg28, zup_ne (Or.inr (by decide)), eg23, zup_ne (Or.inr (by decide))]
            exact hf
          have c387 : g33 387 = s0 387 := by
            rw [eg33, zup_na (by decide), eg28, zup_na (by decide), eg23, zup_na (by decide)]
            exact t387
          have c2 : g33 386 2 = s0 386 2 := by
            rw [eg33, zup_ne (Or.inr (by decide)), eg28, zup_ne (Or.inr (by decide)), eg23, zup_ne (Or.inr (by decide))]
            exact t2
          have b42 : x42 = s0 387 v41_1.toNat := by
            rw [ex42, c387]
          have hl : v41_1.toNat < (s0 386 2).toNat := by omega
          exact ⟨hab, c4, hl, c8, hk0 hl, Or.inr (Or.inr ⟨rfl, rfl, fun z => by
              rcases z with z | z
              · have := kof_2 z
                unfold isL at this
                omega
              · have := kof_4 z
                unfold isD at this
                omega⟩)⟩
        · skip
          have c4 : g33 386 4 = v41_1 := by
            rw [eg33, zup_ne (Or.inr (by decide)), eg28, zup_ne (Or.inr (by decide)), eg23, zup_eq]
          have c5 : g33 386 5 = v41_1 := by
            rw [eg33, zup_ne (Or.inr (by decide)), eg28, zup_eq]
          have c3 : g33 386 3 = 0 := by
            rw [eg33, zup_eq]
          have c8 : g33 386 8 = 0 := by
            rw [eg33, zup_ne (Or.inr (by decide)), eg28, zup_ne (Or.inr (by decide)), eg23, zup_ne (Or.inr (by decide))]
            exact hf
          have c387 : g33 387 = s0 387 := by
            rw [eg33, zup_na (by decide), eg28, zup_na (by decide), eg23, zup_na (by decide)]
            exact t387
          have c2 : g33 386 2 = s0 386 2 := by
            rw [eg33, zup_ne (Or.inr (by decide)), eg28, zup_ne (Or.inr (by decide)), eg23, zup_ne (Or.inr (by decide))]
            exact t2
          have b42 : x42 = s0 387 v41_1.toNat := by
            rw [ex42, c387]
          have hl : v41_1.toNat < (s0 386 2).toNat := by omega
          exact ⟨hab, c4, hl, c8, hk0 hl, Or.inl ⟨rfl, rfl, kof_L (by omega)⟩⟩
    · skip
      have c4 : g33 386 4 = v41_1 := by
        rw [eg33, zup_ne (Or.inr (by decide)), eg28, zup_ne (Or.inr (by decide)), eg23, zup_eq]
      have c5 : g33 386 5 = v41_1 := by
        rw [eg33, zup_ne (Or.inr (by decide)), eg28, zup_eq]
      have c3 : g33 386 3 = 0 := by
        rw [eg33, zup_eq]
      have c8 : g33 386 8 = 0 := by
        rw [eg33, zup_ne (Or.inr (by decide)), eg28, zup_ne (Or.inr (by decide)), eg23, zup_ne (Or.inr (by decide))]
        exact hf
      have c387 : g33 387 = s0 387 := by
        rw [eg33, zup_na (by decide), eg28, zup_na (by decide), eg23, zup_na (by decide)]
        exact t387
      have c2 : g33 386 2 = s0 386 2 := by
        rw [eg33, zup_ne (Or.inr (by decide)), eg28, zup_ne (Or.inr (by decide)), eg23, zup_ne (Or.inr (by decide))]
        exact t2
      exact ⟨v41_1.toNat, hab, by omega, Or.inl ⟨by omega, c3, by omega, c8⟩⟩
  · intro g v85_1 v85_2 v85_3 rg o1 o2 o3 o4 o5 o6 hI
    obtain ⟨hab, hat, hlt, hf, hk0, hkin⟩ := hI
    have t387 : g 387 = s0 387 := rg.a (by decide)
    have t2 : g 386 2 = s0 386 2 := rg.s (by decide)
    refine ⟨fun h7z => ?_, fun h7z => ?_⟩
    · skip
      refine ⟨fun h8z => ?_, fun h8z => ?_⟩
      · skip
        intro x58 ex58 x63 ex63 o11 o12
        refine ⟨fun h13z => ?_, fun h13z => ?_⟩
        · skip
          intro x65 ex65 x70 ex70 o16 o17
          refine ⟨fun h18z => ?_, fun h18z => ?_⟩
          · skip
            have bx63 : x63 = s0 387 (v85_1.toNat - 1) := by
              rw [ex63, t387]
              congr 1
              omega
            have bx70 : x70 = s0 387 (v85_1.toNat - 1) := by
              rw [ex70, t387]
              congr 1
              omega
            refine ⟨hab, hat, hlt, hk0, hkin, Or.inr ⟨fun z => ?_, hf⟩⟩
            obtain ⟨z1, z2, z3⟩ := z
            rcases z3 with z3 | z3
            · have z4 := kof_2 z3
              unfold isL at z4
              omega
            · have z4 := kof_4 z3
              unfold isD at z4
              omega
          · skip
            refine ⟨fun h19z => ?_, fun h19z => ?_⟩
            · skip
              have bx63 : x63 = s0 387 (v85_1.toNat - 1) := by
                rw [ex63, t387]
                congr 1
                omega
              have bx70 : x70 = s0 387 (v85_1.toNat - 1) := by
                rw [ex70, t387]
                congr 1
                omega
              refine ⟨hab, hat, hlt, hk0, hkin, Or.inr ⟨fun z => ?_, hf⟩⟩
              obtain ⟨z1, z2, z3⟩ := z
              rcases z3 with z3 | z3
              · have z4 := kof_2 z3
                unfold isL at z4
                omega
              · have z4 := kof_4 z3
                unfold isD at z4
                omega
            · skip
              intro x73 ex73 o21 o22
              refine ⟨fun h23z => ?_, fun h23z => ?_⟩
              · skip
                exfalso
                omega
              · skip
                intro g82 eg82 g87 eg87
                have bx63 : x63 = s0 387 (v85_1.toNat - 1) := by
                  rw [ex63, t387]
                  congr 1
                  omega
                have bx70 : x70 = s0 387 (v85_1.toNat - 1) := by
                  rw [ex70, t387]
                  congr 1
                  omega
                have ad : adjT (s0 387) v85_1.toNat := by
                  refine ⟨by omega, ?_⟩
                  rw [← bx70]
                  exact Or.inr (kof_D (by omega))
                have rn : run (kof (s0 387 v85_1.toNat)) := by
                  unfold run
                  rcases hkin with ⟨a1, a2, a3⟩ | ⟨a1, a2, a3⟩ | ⟨a1, a2, a3⟩
                  · exact Or.inl a3
                  · exact Or.inr a3
                  · exfalso
                    omega
                have c4 : g87 386 4 = v85_1 := by
                  rw [eg87, zup_ne (Or.inr (by decide)), eg82, zup_ne (Or.inr (by decide))]
                  exact hat
                have c8 : g87 386 8 = 1 := by
                  rw [eg87, zup_ne (Or.inr (by decide)), eg82, zup_eq]
                have c9 : g87 386 9 = v85_1 := by
                  rw [eg87, zup_eq]
                exact ⟨hab, c4, hlt, hk0, hkin, Or.inl ⟨rn, ad, c8, c9⟩⟩
        · skip
          refine ⟨fun h14z => ?_, fun h14z => ?_⟩
          · skip
            intro x89 ex89 x94 ex94 o17 o18
            refine ⟨fun h19z => ?_, fun h19z => ?_⟩
            · skip
              have bx63 : x63 = s0 387 (v85_1.toNat - 1) := by
                rw [ex63, t387]
                congr 1
                omega
              have bx94 : x94 = s0 387 (v85_1.toNat - 1) := by
                rw [ex94, t387]
                congr 1
                omega
              refine ⟨hab, hat, hlt, hk0, hkin, Or.inr ⟨fun z => ?_, hf⟩⟩
              obtain ⟨z1, z2, z3⟩ := z
              rcases z3 with z3 | z3
              · have z4 := kof_2 z3
                unfold isL at z4
                omega
              · have z4 := kof_4 z3
                unfold isD at z4
                omega
            · skip
              refine ⟨fun h20z => ?_, fun h20z => ?_⟩
              · skip
                have bx63 : x63 = s0 387 (v85_1.toNat - 1) := by
                  rw [ex63, t387]
                  congr 1
                  omega
                have bx94 : x94 = s0 387 (v85_1.toNat - 1) := by
                  rw [ex94, t387]
                  congr 1
                  omega
                refine ⟨hab, hat, hlt, hk0, hkin, Or.inr ⟨fun z => ?_, hf⟩⟩
                obtain ⟨z1, z2, z3⟩ := z
                rcases z3 with z3 | z3
                · have z4 := kof_2 z3
                  unfold isL at z4
                  omega
                · have z4 := kof_4 z3
                  unfold isD at z4
                  omega
              · skip
                intro x97 ex97 o22 o23
                refine ⟨fun h24z => ?_, fun h24z => ?_⟩
                · skip
                  exfalso
                  omega
                · skip
                  intro g106 eg106 g111 eg111
                  have bx63 : x63 = s0 387 (v85_1.toNat - 1) := by
                    rw [ex63, t387]
                    congr 1
                    omega
                  have bx94 : x94 = s0 387 (v85_1.toNat - 1) := by
                    rw [ex94, t387]
                    congr 1
                    omega
                  have ad : adjT (s0 387) v85_1.toNat := by
                    refine ⟨by omega, ?_⟩
                    rw [← bx94]
                    exact Or.inr (kof_D (by omega))
                  have rn : run (kof (s0 387 v85_1.toNat)) := by
                    unfold run
                    rcases hkin with ⟨a1, a2, a3⟩ | ⟨a1, a2, a3⟩ | ⟨a1, a2, a3⟩
                    · exact Or.inl a3
                    · exact Or.inr a3
                    · exfalso
                      omega
                  have c4 : g111 386 4 = v85_1 := by
                    rw [eg111, zup_ne (Or.inr (by decide)), eg106, zup_ne (Or.inr (by decide))]
                    exact hat
                  have c8 : g111 386 8 = 1 := by
                    rw [eg111, zup_ne (Or.inr (by decide)), eg106, zup_eq]
                  have c9 : g111 386 9 = v85_1 := by
                    rw [eg111, zup_eq]
                  exact ⟨hab, c4, hlt, hk0, hkin, Or.inl ⟨rn, ad, c8, c9⟩⟩
          · skip
            intro x112 ex112 o16 o17
            refine ⟨fun h18z => ?_, fun h18z => ?_⟩
            · skip
              exfalso
              omega
            · skip
              intro g121 eg121 g126 eg126
              have bx63 : x63 = s0 387 (v85_1.toNat - 1) := by
                rw [ex63, t387]
                congr 1
                omega
              have ad : adjT (s0 387) v85_1.toNat := by
                refine ⟨by omega, ?_⟩
                by_cases z : 97 ≤ x63
                · rw [← bx63]
                  exact Or.inl (kof_L (by omega))
                · rw [← bx63]
                  exact Or.inr (kof_D (by omega))
              have rn : run (kof (s0 387 v85_1.toNat)) := by
                unfold run
                rcases hkin with ⟨a1, a2, a3⟩ | ⟨a1, a2, a3⟩ | ⟨a1, a2, a3⟩
                · exact Or.inl a3
                · exact Or.inr a3
                · exfalso
                  omega
              have c4 : g126 386 4 = v85_1 := by
                rw [eg126, zup_ne (Or.inr (by decide)), eg121, zup_ne (Or.inr (by decide))]
                exact hat
              have c8 : g126 386 8 = 1 := by
                rw [eg126, zup_ne (Or.inr (by decide)), eg121, zup_eq]
              have c9 : g126 386 9 = v85_1 := by
                rw [eg126, zup_eq]
              exact ⟨hab, c4, hlt, hk0, hkin, Or.inl ⟨rn, ad, c8, c9⟩⟩
      · skip
        refine ⟨hab, hat, hlt, hk0, hkin, Or.inr ⟨fun z => ?_, hf⟩⟩
        obtain ⟨z1, z2, z3⟩ := z
        rcases hkin with ⟨a1, a2, a3⟩ | ⟨a1, a2, a3⟩ | ⟨a1, a2, a3⟩
        · omega
        · omega
        · exact a3 z1
    · skip
      refine ⟨fun h8z => ?_, fun h8z => ?_⟩
      · skip
        refine ⟨fun h9z => ?_, fun h9z => ?_⟩
        · skip
          intro x129 ex129 x134 ex134 o12 o13
          refine ⟨fun h14z => ?_, fun h14z => ?_⟩
          · skip
            intro x136 ex136 x141 ex141 o17 o18
            refine ⟨fun h19z => ?_, fun h19z => ?_⟩
            · skip
              have bx134 : x134 = s0 387 (v85_1.toNat - 1) := by
                rw [ex134, t387]
                congr 1
                omega
              have bx141 : x141 = s0 387 (v85_1.toNat - 1) := by
                rw [ex141, t387]
                congr 1
                omega
              refine ⟨hab, hat, hlt, hk0, hkin, Or.inr ⟨fun z => ?_, hf⟩⟩
              obtain ⟨z1, z2, z3⟩ := z
              rcases z3 with z3 | z3
              · have z4 := kof_2 z3
                unfold isL at z4
                omega
              · have z4 := kof_4 z3
                unfold isD at z4
                omega
            · skip
              refine ⟨fun h20z => ?_, fun h20z => ?_⟩
              · skip
                have bx134 : x134 = s0 387 (v85_1.toNat - 1) := by
                  rw [ex134, t387]
                  congr 1
                  omega
                have bx141 : x141 = s0 387 (v85_1.toNat - 1) := by
                  rw [ex141, t387]
                  congr 1
                  omega
                refine ⟨hab, hat, hlt, hk0, hkin, Or.inr ⟨fun z => ?_, hf⟩⟩
                obtain ⟨z1, z2, z3⟩ := z
                rcases z3 with z3 | z3
                · have z4 := kof_2 z3
                  unfold isL at z4
                  omega
                · have z4 := kof_4 z3
                  unfold isD at z4
                  omega
              · skip
                intro x144 ex144 o22 o23
                refine ⟨fun h24z => ?_, fun h24z => ?_⟩
                · skip
                  exfalso
                  omega
                · skip
                  intro g153 eg153 g158 eg158
                  have bx134 : x134 = s0 387 (v85_1.toNat - 1) := by
                    rw [ex134, t387]
                    congr 1
                    omega
                  have bx141 : x141 = s0 387 (v85_1.toNat - 1) := by
                    rw [ex141, t387]
                    congr 1
                    omega
                  have ad : adjT (s0 387) v85_1.toNat := by
                    refine ⟨by omega, ?_⟩
                    rw [← bx141]
                    exact Or.inr (kof_D (by omega))
                  have rn : run (kof (s0 387 v85_1.toNat)) := by
                    unfold run
                    rcases hkin with ⟨a1, a2, a3⟩ | ⟨a1, a2, a3⟩ | ⟨a1, a2, a3⟩
                    · exact Or.inl a3
                    · exact Or.inr a3
                    · exfalso
                      omega
                  have c4 : g158 386 4 = v85_1 := by
                    rw [eg158, zup_ne (Or.inr (by decide)), eg153, zup_ne (Or.inr (by decide))]
                    exact hat
                  have c8 : g158 386 8 = 1 := by
                    rw [eg158, zup_ne (Or.inr (by decide)), eg153, zup_eq]
                  have c9 : g158 386 9 = v85_1 := by
                    rw [eg158, zup_eq]
                  exact ⟨hab, c4, hlt, hk0, hkin, Or.inl ⟨rn, ad, c8, c9⟩⟩
          · skip
            refine ⟨fun h15z => ?_, fun h15z => ?_⟩
            · skip
              intro x160 ex160 x165 ex165 o18 o19
              refine ⟨fun h20z => ?_, fun h20z => ?_⟩
              · skip
                have bx134 : x134 = s0 387 (v85_1.toNat - 1) := by
                  rw [ex134, t387]
                  congr 1
                  omega
                have bx165 : x165 = s0 387 (v85_1.toNat - 1) := by
                  rw [ex165, t387]
                  congr 1
                  omega
                refine ⟨hab, hat, hlt, hk0, hkin, Or.inr ⟨fun z => ?_, hf⟩⟩
                obtain ⟨z1, z2, z3⟩ := z
                rcases z3 with z3 | z3
                · have z4 := kof_2 z3
                  unfold isL at z4
                  omega
                · have z4 := kof_4 z3
                  unfold isD at z4
                  omega
              · skip
                refine ⟨fun h21z => ?_, fun h21z => ?_⟩
                · skip
                  have bx134 : x134 = s0 387 (v85_1.toNat - 1) := by
                    rw [ex134, t387]
                    congr 1
                    omega
                  have bx165 : x165 = s0 387 (v85_1.toNat - 1) := by
                    rw [ex165, t387]
                    congr 1
                    omega
                  refine ⟨hab, hat, hlt, hk0, hkin, Or.inr ⟨fun z => ?_, hf⟩⟩
                  obtain ⟨z1, z2, z3⟩ := z
                  rcases z3 with z3 | z3
                  · have z4 := kof_2 z3
                    unfold isL at z4
                    omega
                  · have z4 := kof_4 z3
                    unfold isD at z4
                    omega
                · skip
                  intro x168 ex168 o23 o24
                  refine ⟨fun h25z => ?_, fun h25z => ?_⟩
                  · skip
                    exfalso
                    omega
                  · skip
                    intro g177 eg177 g182 eg182
                    have bx134 : x134 = s0 387 (v85_1.toNat - 1) := by
                      rw [ex134, t387]
                      congr 1
                      omega
                    have bx165 : x165 = s0 387 (v85_1.toNat - 1) := by
                      rw [ex165, t387]
                      congr 1
                      omega
                    have ad : adjT (s0 387) v85_1.toNat := by
                      refine ⟨by omega, ?_⟩
                      rw [← bx165]
                      exact Or.inr (kof_D (by omega))
                    have rn : run (kof (s0 387 v85_1.toNat)) := by
                      unfold run
                      rcases hkin with ⟨a1, a2, a3⟩ | ⟨a1, a2, a3⟩ | ⟨a1, a2, a3⟩
                      · exact Or.inl a3
                      · exact Or.inr a3
                      · exfalso
                        omega
                    have c4 : g182 386 4 = v85_1 := by
                      rw [eg182, zup_ne (Or.inr (by decide)), eg177, zup_ne (Or.inr (by decide))]
                      exact hat
                    have c8 : g182 386 8 = 1 := by
                      rw [eg182, zup_ne (Or.inr (by decide)), eg177, zup_eq]
                    have c9 : g182 386 9 = v85_1 := by
                      rw [eg182, zup_eq]
                    exact ⟨hab, c4, hlt, hk0, hkin, Or.inl ⟨rn, ad, c8, c9⟩⟩
            · skip
              intro x183 ex183 o17 o18
              refine ⟨fun h19z => ?_, fun h19z => ?_⟩
              · skip
                exfalso
                omega
              · skip
                intro g192 eg192 g197 eg197
                have bx134 : x134 = s0 387 (v85_1.toNat - 1) := by
                  rw [ex134, t387]
                  congr 1
                  omega
                have ad : adjT (s0 387) v85_1.toNat := by
                  refine ⟨by omega, ?_⟩
                  by_cases z : 97 ≤ x134
                  · rw [← bx134]
                    exact Or.inl (kof_L (by omega))
                  · rw [← bx134]
                    exact Or.inr (kof_D (by omega))
                have rn : run (kof (s0 387 v85_1.toNat)) := by
                  unfold run
                  rcases hkin with ⟨a1, a2, a3⟩ | ⟨a1, a2, a3⟩ | ⟨a1, a2, a3⟩
                  · exact Or.inl a3
                  · exact Or.inr a3
                  · exfalso
                    omega
                have c4 : g197 386 4 = v85_1 := by
                  rw [eg197, zup_ne (Or.inr (by decide)), eg192, zup_ne (Or.inr (by decide))]
                  exact hat
                have c8 : g197 386 8 = 1 := by
                  rw [eg197, zup_ne (Or.inr (by decide)), eg192, zup_eq]
                have c9 : g197 386 9 = v85_1 := by
                  rw [eg197, zup_eq]
                exact ⟨hab, c4, hlt, hk0, hkin, Or.inl ⟨rn, ad, c8, c9⟩⟩
        · skip
          refine ⟨hab, hat, hlt, hk0, hkin, Or.inr ⟨fun z => ?_, hf⟩⟩
          obtain ⟨z1, z2, z3⟩ := z
          rcases hkin with ⟨a1, a2, a3⟩ | ⟨a1, a2, a3⟩ | ⟨a1, a2, a3⟩
          · omega
          · omega
          · exact a3 z1
      · skip
        refine ⟨hab, hat, hlt, hk0, hkin, Or.inr ⟨fun z => ?_, hf⟩⟩
        obtain ⟨z1, z2, z3⟩ := z
        rcases hkin with ⟨a1, a2, a3⟩ | ⟨a1, a2, a3⟩ | ⟨a1, a2, a3⟩
        · omega
        · omega
        · exact a3 z1
  · intro g v131_1 v131_2 v131_3 rg o1 o2 o3 o4 o5 o6 hI
    obtain ⟨hab, hat, hlt, hk0, hkin, hadj⟩ := hI
    have t387 : g 387 = s0 387 := rg.a (by decide)
    have t2 : g 386 2 = s0 386 2 := rg.s (by decide)
    intro g202 eg202 g207 eg207 g212 eg212 x213 ex213 g219 eg219
    refine ⟨fun h12z => ?_, fun h12z => ?_⟩
    · skip
      intro g225 eg225
      have kr : kof (s0 387 v131_1.toNat) = 2 := by
        rcases hkin with ⟨a1, a2, a3⟩ | ⟨a1, a2, a3⟩ | ⟨a1, a2, a3⟩
        · exact a3
        · exact absurd a1 (by omega)
        · exact absurd a1 (by omega)
      have c4 : g225 386 4 = v131_1 := by
        rw [eg225, zup_ne (Or.inr (by decide)), eg219, zup_ne (Or.inr (by decide)), eg212, zup_ne (Or.inr (by decide)), eg207, zup_ne (Or.inr (by decide)), eg202, zup_ne (Or.inr (by decide))]
        exact hat
      have c3 : g225 386 3 = 1 := by
        rw [eg225, zup_eq]
      have c7 : g225 386 7 = 0 := by
        rw [eg225, zup_ne (Or.inr (by decide)), eg219, zup_ne (Or.inr (by decide)), eg212, zup_ne (Or.inr (by decide)), eg207, zup_eq]
      have c6 : g225 386 6 = 0 := by
        rw [eg225, zup_ne (Or.inr (by decide)), eg219, zup_ne (Or.inr (by decide)), eg212, zup_ne (Or.inr (by decide)), eg207, zup_ne (Or.inr (by decide)), eg202, zup_eq]
      have f8 : g225 386 8 = g 386 8 := by
        rw [eg225, zup_ne (Or.inr (by decide)), eg219, zup_ne (Or.inr (by decide)), eg212, zup_ne (Or.inr (by decide)), eg207, zup_ne (Or.inr (by decide)), eg202, zup_ne (Or.inr (by decide))]
      have f9 : g225 386 9 = g 386 9 := by
        rw [eg225, zup_ne (Or.inr (by decide)), eg219, zup_ne (Or.inr (by decide)), eg212, zup_ne (Or.inr (by decide)), eg207, zup_ne (Or.inr (by decide)), eg202, zup_ne (Or.inr (by decide))]
      have ft : AFt (s0 387) v131_1.toNat (mxl 2) g225 v131_1.toNat := by
        rcases hadj with ⟨-, a2, a3, a4⟩ | ⟨a1, a2⟩
        · exact Or.inl ⟨a2, f8.trans a3, f9.trans (by omega)⟩
        · refine Or.inr ⟨fun z => a1 ⟨?_, z⟩, Or.inl ⟨Nat.le_add_right _ _, f8.trans a2⟩⟩
          rw [kr]
          unfold run
          omega
      refine ⟨v131_1.toNat, 2, ⟨hab, hlt, Nat.le_refl _, by omega, by unfold run; omega, kr, fun k h1 h2 => absurd h2 (by omega), by omega, ?_, fun _ _ => ?_, fun _ _ => ?_⟩, ft, Or.inl ⟨by omega, by omega, rfl⟩, rfl, by omega⟩
      · rw [c3]
        rfl
      · rw [c7, Nat.sub_self]
        rfl
      · rw [c6, Nat.sub_self]
        rfl
    · skip
      refine ⟨fun h13z => ?_, fun h13z => ?_⟩
      · skip
        intro g231 eg231
        have kr : kof (s0 387 v131_1.toNat) = 4 := by
          rcases hkin with ⟨a1, a2, a3⟩ | ⟨a1, a2, a3⟩ | ⟨a1, a2, a3⟩
          · exact absurd a1 (by omega)
          · exact a3
          · exact absurd a1 (by omega)
        have c4 : g231 386 4 = v131_1 := by
          rw [eg231, zup_ne (Or.inr (by decide)), eg219, zup_ne (Or.inr (by decide)), eg212, zup_ne (Or.inr (by decide)), eg207, zup_ne (Or.inr (by decide)), eg202, zup_ne (Or.inr (by decide))]
          exact hat
        have c3 : g231 386 3 = 2 := by
          rw [eg231, zup_eq]
        have c7 : g231 386 7 = 0 := by
          rw [eg231, zup_ne (Or.inr (by decide)), eg219, zup_ne (Or.inr (by decide)), eg212, zup_ne (Or.inr (by decide)), eg207, zup_eq]
        have c6 : g231 386 6 = 0 := by
          rw [eg231, zup_ne (Or.inr (by decide)), eg219, zup_ne (Or.inr (by decide)), eg212, zup_ne (Or.inr (by decide)), eg207, zup_ne (Or.inr (by decide)), eg202, zup_eq]
        have f8 : g231 386 8 = g 386 8 := by
          rw [eg231, zup_ne (Or.inr (by decide)), eg219, zup_ne (Or.inr (by decide)), eg212, zup_ne (Or.inr (by decide)), eg207, zup_ne (Or.inr (by decide)), eg202, zup_ne (Or.inr (by decide))]
        have f9 : g231 386 9 = g 386 9 := by
          rw [eg231, zup_ne (Or.inr (by decide)), eg219, zup_ne (Or.inr (by decide)), eg212, zup_ne (Or.inr (by decide)), eg207, zup_ne (Or.inr (by decide)), eg202, zup_ne (Or.inr (by decide))]
        have ft : AFt (s0 387) v131_1.toNat (mxl 4) g231 v131_1.toNat := by
          rcases hadj with ⟨-, a2, a3, a4⟩ | ⟨a1, a2⟩
          · exact Or.inl ⟨a2, f8.trans a3, f9.trans (by omega)⟩
          · refine Or.inr ⟨fun z => a1 ⟨?_, z⟩, Or.inl ⟨Nat.le_add_right _ _, f8.trans a2⟩⟩
            rw [kr]
            unfold run
            omega
        refine ⟨v131_1.toNat, 4, ⟨hab, hlt, Nat.le_refl _, by omega, by unfold run; omega, kr, fun k h1 h2 => absurd h2 (by omega), by omega, ?_, fun _ _ => ?_, fun _ _ => ?_⟩, ft, Or.inr ⟨by omega, by omega, rfl⟩, rfl, by omega⟩
        · rw [c3]
          rfl
        · rw [c7, Nat.sub_self]
          rfl
        · rw [c6, Nat.sub_self]
          rfl
      · skip
        intro x235 ex235 o15 o16 g240 eg240
        have nr : ¬ run (kof (s0 387 v131_1.toNat)) := by
          rcases hkin with ⟨a1, a2, a3⟩ | ⟨a1, a2, a3⟩ | ⟨a1, a2, a3⟩
          · exact absurd a1 (by omega)
          · exact absurd a2 (by omega)
          · exact a3
        have z8 : g 386 8 = 0 := by
          rcases hadj with ⟨a1, -⟩ | ⟨-, a2⟩
          · exact absurd a1 nr
          · exact a2
        have dg202 : g202 386 8 = 0 := by
          rw [eg202, zup_ne (Or.inr (by decide))]
          exact z8
        have dg207 : g207 386 8 = 0 := by
          rw [eg207, zup_ne (Or.inr (by decide))]
          exact dg202
        have dg212 : g212 386 8 = 0 := by
          rw [eg212, zup_ne (Or.inr (by decide))]
          exact dg207
        have dg219 : g219 386 8 = 0 := by
          rw [eg219, zup_ne (Or.inr (by decide))]
          exact dg212
        have dg240 : g240 386 8 = 0 := by
          rw [eg240, zup_ne (Or.inr (by decide))]
          exact dg219
        have c4 : g240 386 4 = v131_1 := by
          rw [eg240, zup_ne (Or.inr (by decide)), eg219, zup_ne (Or.inr (by decide)), eg212, zup_ne (Or.inr (by decide)), eg207, zup_ne (Or.inr (by decide)), eg202, zup_ne (Or.inr (by decide))]
          exact hat
        have c3 : g240 386 3 = 3 := by
          rw [eg240, zup_ne (Or.inr (by decide)), eg219, zup_ne (Or.inr (by decide)), eg212, zup_eq]
        have c5 : g240 386 5 = v131_1 + 1 := by
          rw [eg240, zup_ne (Or.inr (by decide)), eg219, zup_eq]
          omega
        have c6 : g240 386 6 = s0 387 v131_1.toNat := by
          rw [eg240, zup_eq, ex235, eg219, zup_na (by decide), eg212, zup_na (by decide), eg207, zup_na (by decide), eg202, zup_na (by decide), t387]
        exact ⟨v131_1.toNat, hab, by omega, Or.inr (Or.inl ⟨hlt, nr, hk0, c3, c6, by omega, dg240⟩)⟩
  · intro g v200_1 v200_2 v200_3 v200_4 v200_5 rg o1 o2 o3 o4 o5 o6 o7 o8 o9 hI
    obtain ⟨a, r, hr, hft, hkin, h4, h5v⟩ := hI
    have hr0 := hr
    obtain ⟨r1, r2, r3, r4, r5, r6, r7, r8, r9, r10, r11⟩ := hr0
    have t387 : g 387 = s0 387 := rg.a (by decide)
    have t2 : g 386 2 = s0 386 2 := rg.s (by decide)
    intro x241 ex241 o11 o12
    refine ⟨fun h13z => ?_, fun h13z => ?_⟩
    · skip
      refine ⟨fun h14z => ?_, fun h14z => ?_⟩
      · skip
        intro x250 ex250 o16 o17
        refine ⟨fun h18z => ?_, fun h18z => ?_⟩
        · skip
          have by_ : x250 = s0 387 v200_1.toNat := by
            rw [ex250, t387]
          refine ⟨a, r, hr, hft, fun hl hz => ?_⟩
          rcases hkin with ⟨a1, a2, a3⟩ | ⟨a1, a2, a3⟩
          · rw [a3] at hz
            have z4 := kof_2 hz
            unfold isL at z4
            omega
          · rw [a3] at hz
            have z4 := kof_4 hz
            unfold isD at z4
            omega
        · skip
          refine ⟨fun h19z => ?_, fun h19z => ?_⟩
          · skip
            have by_ : x250 = s0 387 v200_1.toNat := by
              rw [ex250, t387]
            refine ⟨a, r, hr, hft, fun hl hz => ?_⟩
            rcases hkin with ⟨a1, a2, a3⟩ | ⟨a1, a2, a3⟩
            · rw [a3] at hz
              have z4 := kof_2 hz
              unfold isL at z4
              omega
            · rw [a3] at hz
              have z4 := kof_4 hz
              unfold isD at z4
              omega
          · skip
            refine ⟨fun h20z => ?_, fun h20z => ?_⟩
            · skip
              have by_ : x250 = s0 387 v200_1.toNat := by
                rw [ex250, t387]
              have hl : v200_1.toNat < (s0 386 2).toNat := by omega
              have kr : kof (s0 387 v200_1.toNat) = r := by
                rcases hkin with ⟨a1, a2, a3⟩ | ⟨a1, a2, a3⟩
                · rw [a3]
                  exact kof_L (by omega)
                · rw [a3]
                  exact kof_D (by omega)
              refine ⟨a, r, hr, ?_, hkin, h4, h5v, hl, kr⟩
              rcases hft with z | ⟨z1, ⟨z2, z3⟩ | z2⟩
              · exact Or.inl z
              · exact Or.inr ⟨z1, Or.inl ⟨by omega, z3⟩⟩
              · exact Or.inr ⟨z1, Or.inr ⟨by omega, z2.2⟩⟩
            · skip
              intro x254 ex254 o22 o23
              refine ⟨fun h24z => ?_, fun h24z => ?_⟩
              · skip
                have by_ : x250 = s0 387 v200_1.toNat := by
                  rw [ex250, t387]
                have hl : v200_1.toNat < (s0 386 2).toNat := by omega
                have kr : kof (s0 387 v200_1.toNat) = r := by
                  rcases hkin with ⟨a1, a2, a3⟩ | ⟨a1, a2, a3⟩
                  · rw [a3]
                    exact kof_L (by omega)
                  · rw [a3]
                    exact kof_D (by omega)
                refine ⟨a, r, hr, ?_, hkin, h4, h5v, hl, kr⟩
                rcases hft with z | ⟨z1, ⟨z2, z3⟩ | z2⟩
                · exact Or.inl z
                · exact Or.inr ⟨z1, absurd z3 (by omega)⟩
                · exact Or.inr ⟨z1, Or.inr ⟨by omega, z2.2⟩⟩
              · skip
                intro g263 eg263 g268 eg268
                have by_ : x250 = s0 387 v200_1.toNat := by
                  rw [ex250, t387]
                have hl : v200_1.toNat < (s0 386 2).toNat := by omega
                have kr : kof (s0 387 v200_1.toNat) = r := by
                  rcases hkin with ⟨a1, a2, a3⟩ | ⟨a1, a2, a3⟩
                  · rw [a3]
                    exact kof_L (by omega)
                  · rw [a3]
                    exact kof_D (by omega)
                have c8 : g268 386 8 = 1 := by
                  rw [eg268, zup_ne (Or.inr (by decide)), eg263, zup_eq]
                have c9 : g268 386 9 = v200_1 := by
                  rw [eg268, zup_eq]
                have hq := ARun_up (k := 9) (x := v200_1) (ARun_up (k := 8) (x := 1) hr (by decide) (by decide) (by decide) (by decide)) (by decide) (by decide) (by decide) (by decide)
                rw [← eg263, ← eg268] at hq
                refine ⟨a, r, hq, ?_, hkin, h4, h5v, hl, kr⟩
                rcases hft with ⟨z1, z2, z3⟩ | ⟨z1, z2⟩
                · exact absurd z2 (by omega)
                · exact Or.inr ⟨z1, Or.inr ⟨by omega, c8, by omega⟩⟩
      · skip
        intro x272 ex272 o16 o17
        refine ⟨fun h18z => ?_, fun h18z => ?_⟩
        · skip
          have by_ : x272 = s0 387 v200_1.toNat := by
            rw [ex272, t387]
          refine ⟨a, r, hr, hft, fun hl hz => ?_⟩
          rcases hkin with ⟨a1, a2, a3⟩ | ⟨a1, a2, a3⟩
          · rw [a3] at hz
            have z4 := kof_2 hz
            unfold isL at z4
            omega
          · rw [a3] at hz
            have z4 := kof_4 hz
            unfold isD at z4
            omega
        · skip
          refine ⟨fun h19z => ?_, fun h19z => ?_⟩
          · skip
            have by_ : x272 = s0 387 v200_1.toNat := by
              rw [ex272, t387]
            refine ⟨a, r, hr, hft, fun hl hz => ?_⟩
            rcases hkin with ⟨a1, a2, a3⟩ | ⟨a1, a2, a3⟩
            · rw [a3] at hz
              have z4 := kof_2 hz
              unfold isL at z4
              omega
            · rw [a3] at hz
              have z4 := kof_4 hz
              unfold isD at z4
              omega
          · skip
            refine ⟨fun h20z => ?_, fun h20z => ?_⟩
            · skip
              have by_ : x272 = s0 387 v200_1.toNat := by
                rw [ex272, t387]
              have hl : v200_1.toNat < (s0 386 2).toNat := by omega
              have kr : kof (s0 387 v200_1.toNat) = r := by
                rcases hkin with ⟨a1, a2, a3⟩ | ⟨a1, a2, a3⟩
                · rw [a3]
                  exact kof_L (by omega)
                · rw [a3]
                  exact kof_D (by omega)
              refine ⟨a, r, hr, ?_, hkin, h4, h5v, hl, kr⟩
              rcases hft with z | ⟨z1, ⟨z2, z3⟩ | z2⟩
              · exact Or.inl z
              · exact Or.inr ⟨z1, Or.inl ⟨by omega, z3⟩⟩
              · exact Or.inr ⟨z1, Or.inr ⟨by omega, z2.2⟩⟩
            · skip
              intro x276 ex276 o22 o23
              refine ⟨fun h24z => ?_, fun h24z => ?_⟩
              · skip
                have by_ : x272 = s0 387 v200_1.toNat := by
                  rw [ex272, t387]
                have hl : v200_1.toNat < (s0 386 2).toNat := by omega
                have kr : kof (s0 387 v200_1.toNat) = r := by
                  rcases hkin with ⟨a1, a2, a3⟩ | ⟨a1, a2, a3⟩
                  · rw [a3]
                    exact kof_L (by omega)
                  · rw [a3]
                    exact kof_D (by omega)
                refine ⟨a, r, hr, ?_, hkin, h4, h5v, hl, kr⟩
                rcases hft with z | ⟨z1, ⟨z2, z3⟩ | z2⟩
                · exact Or.inl z
                · exact Or.inr ⟨z1, absurd z3 (by omega)⟩
                · exact Or.inr ⟨z1, Or.inr ⟨by omega, z2.2⟩⟩
              · skip
                intro g285 eg285 g290 eg290
                have by_ : x272 = s0 387 v200_1.toNat := by
                  rw [ex272, t387]
                have hl : v200_1.toNat < (s0 386 2).toNat := by omega
                have kr : kof (s0 387 v200_1.toNat) = r := by
                  rcases hkin with ⟨a1, a2, a3⟩ | ⟨a1, a2, a3⟩
                  · rw [a3]
                    exact kof_L (by omega)
                  · rw [a3]
                    exact kof_D (by omega)
                have c8 : g290 386 8 = 1 := by
                  rw [eg290, zup_ne (Or.inr (by decide)), eg285, zup_eq]
                have c9 : g290 386 9 = v200_1 := by
                  rw [eg290, zup_eq]
                have hq := ARun_up (k := 9) (x := v200_1) (ARun_up (k := 8) (x := 1) hr (by decide) (by decide) (by decide) (by decide)) (by decide) (by decide) (by decide) (by decide)
                rw [← eg285, ← eg290] at hq
                refine ⟨a, r, hq, ?_, hkin, h4, h5v, hl, kr⟩
                rcases hft with ⟨z1, z2, z3⟩ | ⟨z1, z2⟩
                · exact absurd z2 (by omega)
                · exact Or.inr ⟨z1, Or.inr ⟨by omega, c8, by omega⟩⟩
    · skip
      exact ⟨a, r, hr, hft, fun hl => absurd hl (by omega)⟩
  · intro g v252_1 v252_2 v252_3 v252_4 v252_5 rg o1 o2 o3 o4 o5 o6 o7 o8 o9 hI
    obtain ⟨a, r, hr, hft, hkin, h4, h5v, hlt, hkr⟩ := hI
    have hr0 := hr
    obtain ⟨r1, r2, r3, r4, r5, r6, r7, r8, r9, r10, r11⟩ := hr0
    have t387 : g 387 = s0 387 := rg.a (by decide)
    have t2 : g 386 2 = s0 386 2 := rg.s (by decide)
    refine ⟨fun h10z => ?_, fun h10z => ?_⟩
    · skip
      refine ⟨fun h11z => ?_, fun h11z => ?_⟩
      · skip
        intro y296 ey296 o13 y298 ey298 x303 ex303 o16 o17 y304 ey304 o19 y307 ey307 g313 eg313
        have by_ : x303 = s0 387 v252_1.toNat := by
          rw [ex303, t387]
        have er : r = 2 := by omega
        have k : ∀ k, k ≠ 7 → g313 386 k = g 386 k := fun k hk => by
          rw [eg313, zup_ne (Or.inr hk)]
        refine ⟨a, r, ⟨r1, r2, r3, r4, r5, r6, r7, (k 4 (by decide)).trans r8, (k 3 (by decide)).trans r9, fun z1 z2 => ?_, fun z1 z2 => (k 6 (by decide)).trans (r11 z1 z2)⟩, ?_, hkin, h4, h5v, hlt, hkr⟩
        · rw [eg313, zup_eq, pk8_s r3, ← r10 z1 (by omega)]
          omega
        · unfold AFt
          rw [k 8 (by decide), k 9 (by decide)]
          exact hft
      · skip
        refine ⟨a, r, ⟨r1, r2, r3, r4, r5, r6, r7, r8, r9, fun z1 z2 => ?_, r11⟩, hft, hkin, h4, h5v, hlt, hkr⟩
        exfalso
        subst z1
        rw [mxl_2] at h4
        omega
    · skip
      refine ⟨a, r, ⟨r1, r2, r3, r4, r5, r6, r7, r8, r9, fun z1 z2 => ?_, r11⟩, hft, hkin, h4, h5v, hlt, hkr⟩
      exfalso
      subst z1
      rw [mxl_2] at h4
      omega
  · intro g v282_1 v282_2 v282_3 v282_4 v282_5 rg o1 o2 o3 o4 o5 o6 o7 o8 o9 hI
    obtain ⟨a, r, hr, hft, hkin, h4, h5v, hlt, hkr⟩ := hI
    have hr0 := hr
    obtain ⟨r1, r2, r3, r4, r5, r6, r7, r8, r9, r10, r11⟩ := hr0
    have t387 : g 387 = s0 387 := rg.a (by decide)
    have t2 : g 386 2 = s0 386 2 := rg.s (by decide)
    refine ⟨fun h10z => ?_, fun h10z => ?_⟩
    · skip
      refine ⟨fun h11z => ?_, fun h11z => ?_⟩
      · skip
        intro x316 ex316 x321 ex321 x325 ex325 o15 o16 x327 ex327 x329 ex329 g334 eg334
        have by_ : x325 = s0 387 v282_1.toNat := by
          rw [ex325, t387]
        have er : r = 4 := by omega
        have hm4 : v282_4 = 4 := by
          rw [h4, er, mxl_4]
          rfl
        have qa : v282_1.toNat ≤ a + 4 := by omega
        have nb := nu10_b (T := s0 387) (a := a) (v282_1.toNat - a) (fun k h1 h2 => kof_4 (er ▸ r7 k h1 (by omega)))
        have nc : nu10 (s0 387) a (v282_1.toNat - a) < 10000 := by
          have c : v282_1.toNat - a = 0 ∨ v282_1.toNat - a = 1 ∨ v282_1.toNat - a = 2 ∨ v282_1.toNat - a = 3 := by omega
          have nb2 := nb.2
          rcases c with c | c | c | c <;> rw [c] at nb2 ⊢ <;> omega
        have hv : x316 = nu10 (s0 387) a (v282_1.toNat - a) := (ex316).trans (r11 er qa)
        have w1 : x321 = 10 * x316 := (ex321).trans (zxmul_e (by omega) (by omega) (by omega))
        have w2 : x327 = x321 + x325 := (ex327).trans (zxadd_e (by omega) (by omega) (by omega))
        have w3 : x329 = x327 - 48 := (ex329).trans (zxsub_e (by omega) (by omega) (by omega))
        have k : ∀ k, k ≠ 6 → g334 386 k = g 386 k := fun k hk => by
          rw [eg334, zup_ne (Or.inr hk)]
        refine ⟨a, r, ⟨r1, r2, r3, r4, r5, r6, r7, (k 4 (by decide)).trans r8, (k 3 (by decide)).trans r9, fun z1 z2 => (k 7 (by decide)).trans (r10 z1 z2), fun z1 z2 => ?_⟩, ?_, hkin, h4, h5v, hlt, hkr⟩
        · rw [eg334, zup_eq, nu10_s r3]
          omega
        · unfold AFt
          rw [k 8 (by decide), k 9 (by decide)]
          exact hft
      · skip
        refine ⟨a, r, ⟨r1, r2, r3, r4, r5, r6, r7, r8, r9, r10, fun z1 z2 => ?_⟩, hft, hkin, h4, h5v, hlt, hkr⟩
        exfalso
        subst z1
        rw [mxl_4] at h4
        omega
    · skip
      refine ⟨a, r, ⟨r1, r2, r3, r4, r5, r6, r7, r8, r9, r10, fun z1 z2 => ?_⟩, hft, hkin, h4, h5v, hlt, hkr⟩
      exfalso
      subst z1
      rw [mxl_4] at h4
      omega
  · intro g v314_1 v314_2 v314_3 v314_4 v314_5 rg o1 o2 o3 o4 o5 o6 o7 o8 o9 hI
    obtain ⟨a, r, hr, hft, hkin, h4, h5v, hlt, hkr⟩ := hI
    have hr0 := hr
    obtain ⟨r1, r2, r3, r4, r5, r6, r7, r8, r9, r10, r11⟩ := hr0
    have t387 : g 387 = s0 387 := rg.a (by decide)
    have t2 : g 386 2 = s0 386 2 := rg.s (by decide)
    intro o10 x336 ex336 x338 ex338
    have eq : x338.toNat = v314_1.toNat + 1 := by omega
    rw [eq]
    exact ⟨a, r, ⟨r1, r2, by omega, by omega, r5, r6, fun k h1 h2 => by
      by_cases z : k = v314_1.toNat
      · rw [z]
        exact hkr
      · exact r7 k h1 (by omega), r8, r9, r10, r11⟩, hft, hkin, h4, by omega⟩
  · intro g v323_1 rg o1 o2 hI
    obtain ⟨a, r, hr, hft, hne⟩ := hI
    have hr0 := hr
    obtain ⟨r1, r2, r3, r4, r5, r6, r7, r8, r9, r10, r11⟩ := hr0
    have t387 : g 387 = s0 387 := rg.a (by decide)
    have t2 : g 386 2 = s0 386 2 := rg.s (by decide)
    intro g344 eg344
    have c5 : g344 386 5 = v323_1 := by
      rw [eg344, zup_eq]
    have hq := ARun_up (k := 5) (x := v323_1) hr (by decide) (by decide) (by decide) (by decide)
    have hf2 := AFt_up (k := 5) (v := v323_1) hft (by decide) (by decide)
    rw [← eg344] at hq hf2
    obtain ⟨-, -, -, -, -, -, -, s8, s9, s10, s11⟩ := hq
    have hgt : a < v323_1.toNat := by
      by_cases z : a = v323_1.toNat
      · exact absurd (z ▸ r6) (hne (by omega))
      · omega
    exact ⟨a, r1, s8, Or.inr (Or.inr ⟨r2, r, v323_1.toNat, r5, hgt, r4, r7, hne, s9, by omega, hf2, s10, s11⟩)⟩
set_option maxHeartbeats 4000000 in
theorem w_2319 {s0 : zF} {a0 x : Int} (hx : c5 (c8 x) = x) (ha : c8 x = a0) : p_2319 s0 a0 (fun v _ => v = 1 ∧ owI x ≠ -1 ∨ v = 0 ∧ owI x = -1) := by
  unfold p_2319
  intro x1 ex1
  refine ⟨fun h2z => ?_, fun h2z => ?_⟩
  · skip
    intro x4 ex4
    refine ⟨fun h4z => ?_, fun h4z => ?_⟩
    · skip
      intro x7 ex7
      refine ⟨fun h6z => ?_, fun h6z => ?_⟩
      · skip
        intro x10 ex10
        refine ⟨fun h8z => ?_, fun h8z => ?_⟩
        · skip
          intro x13 ex13
          refine ⟨fun h10z => ?_, fun h10z => ?_⟩
          · skip
            intro x16 ex16
            refine ⟨fun h12z => ?_, fun h12z => ?_⟩
            · skip
              intro x19 ex19
              refine ⟨fun h14z => ?_, fun h14z => ?_⟩
              · skip
                intro x22 ex22
                refine ⟨fun h16z => ?_, fun h16z => ?_⟩
                · skip
                  intro x25 ex25
                  refine ⟨fun h18z => ?_, fun h18z => ?_⟩
                  · skip
                    intro x28 ex28
                    refine ⟨fun h20z => ?_, fun h20z => ?_⟩
                    · skip
                      intro x31 ex31
                      refine ⟨fun h22z => ?_, fun h22z => ?_⟩
                      · skip
                        intro x34 ex34
                        refine ⟨fun h24z => ?_, fun h24z => ?_⟩
                        · skip
                          intro x37 ex37
                          refine ⟨fun h26z => ?_, fun h26z => ?_⟩
                          · skip
                            intro x40 ex40
                            refine ⟨fun h28z => ?_, fun h28z => ?_⟩
                            · skip
                              intro x43 ex43
                              refine ⟨fun h30z => ?_, fun h30z => ?_⟩
                              · skip
                                intro x46 ex46
                                refine ⟨fun h32z => ?_, fun h32z => ?_⟩
                                · skip
                                  intro x49 ex49
                                  refine ⟨fun h34z => ?_, fun h34z => ?_⟩
                                  · skip
                                    intro x52 ex52
                                    refine ⟨fun h36z => ?_, fun h36z => ?_⟩
                                    · skip
                                      intro x55 ex55
                                      refine ⟨fun h38z => ?_, fun h38z => ?_⟩
                                      · skip
                                        intro x58 ex58
                                        refine ⟨fun h40z => ?_, fun h40z => ?_⟩
                                        · skip
                                          intro x61 ex61
                                          refine ⟨fun h42z => ?_, fun h42z => ?_⟩
                                          · skip
                                            intro x64 ex64
                                            refine ⟨fun h44z => ?_, fun h44z => ?_⟩
                                            · skip
                                              intro x67 ex67
                                              refine ⟨fun h46z => ?_, fun h46z => ?_⟩
                                              · skip
                                                intro x70 ex70
                                                refine ⟨fun h48z => ?_, fun h48z => ?_⟩
                                                · skip
                                                  intro x73 ex73
                                                  refine ⟨fun h50z => ?_, fun h50z => ?_⟩
                                                  · skip
                                                    intro x76 ex76
                                                    refine ⟨fun h52z => ?_, fun h52z => ?_⟩
                                                    · skip
                                                      intro x79 ex79
                                                      refine ⟨fun h54z => ?_, fun h54z => ?_⟩
                                                      · skip
                                                        refine Or.inr ⟨rfl, own_none (fun w hw => ?_)⟩
                                                        rw [ha]
                                                        have hc : w = 0 ∨ w = 1 ∨ w = 2 ∨ w = 3 ∨ w = 4 ∨ w = 5 ∨ w = 6 ∨ w = 7 ∨ w = 8 ∨ w = 9 ∨ w = 10 ∨ w = 11 ∨ w = 12 ∨ w = 13 ∨ w = 14 ∨ w = 15 ∨ w = 16 ∨ w = 17 ∨ w = 18 ∨ w = 19 ∨ w = 20 ∨ w = 21 ∨ w = 22 ∨ w = 23 ∨ w = 24 ∨ w = 25 ∨ w = 26 := by omega
                                                        rcases hc with z | z | z | z | z | z | z | z | z | z | z | z | z | z | z | z | z | z | z | z | z | z | z | z | z | z | z
                                                        · rw [z]
                                                          show a0 ≠ 439956431717
                                                          omega
                                                        · rw [z]
                                                          show a0 ≠ 131277443786868
                                                          omega
                                                        · rw [z]
                                                          show a0 ≠ 431198598248
                                                          omega
                                                        · rw [z]
                                                          show a0 ≠ 482854658917
                                                          omega
                                                        · rw [z]
                                                          show a0 ≠ 120299592184933
                                                          omega
                                                        · rw [z]
                                                          show a0 ≠ 108187867505765
                                                          omega
                                                        · rw [z]
                                                          show a0 ≠ 1717922932
                                                          omega
                                                        · rw [z]
                                                          show a0 ≠ 6451065
                                                          omega
                                                        · rw [z]
                                                          show a0 ≠ 1868850291
                                                          omega
                                                        · rw [z]
                                                          show a0 ≠ 483006377075
                                                          omega
                                                        · rw [z]
                                                          show a0 ≠ 126918153364851
                                                          omega
                                                        · rw [z]
                                                          show a0 ≠ 444133766004
                                                          omega
                                                        · rw [z]
                                                          show a0 ≠ 495739560811
                                                          omega
                                                        · rw [z]
                                                          show a0 ≠ 24948
                                                          omega
                                                        · rw [z]
                                                          show a0 ≠ 431415976301
                                                          omega
                                                        · rw [z]
                                                          show a0 ≠ 7632231
                                                          omega
                                                        · rw [z]
                                                          show a0 ≠ 465491424371
                                                          omega
                                                        · rw [z]
                                                          show a0 ≠ 123563851081075
                                                          omega
                                                        · rw [z]
                                                          show a0 ≠ 1885434739
                                                          omega
                                                        · rw [z]
                                                          show a0 ≠ 1684366704
                                                          omega
                                                        · rw [z]
                                                          show a0 ≠ 2003330414
                                                          omega
                                                        · rw [z]
                                                          show a0 ≠ 28530
                                                          omega
                                                        · rw [z]
                                                          show a0 ≠ 6385252
                                                          omega
                                                        · rw [z]
                                                          show a0 ≠ 7237492
                                                          omega
                                                        · rw [z]
                                                          show a0 ≠ 6384748
                                                          omega
                                                        · rw [z]
                                                          show a0 ≠ 7170414
                                                          omega
                                                        · rw [z]
                                                          show a0 ≠ 7168376
                                                          omega
                                                      · skip
                                                        refine Or.inl ⟨rfl, ?_⟩
                                                        rw [own_some (w := 26) (a := 7168376) hx (OW_w (by decide) rfl) (ha.trans (by omega))]
                                                        decide
                                                    · skip
                                                      refine Or.inl ⟨rfl, ?_⟩
                                                      rw [own_some (w := 25) (a := 7170414) hx (OW_w (by decide) rfl) (ha.trans (by omega))]
                                                      decide
                                                  · skip
                                                    refine Or.inl ⟨rfl, ?_⟩
                                                    rw [own_some (w := 6) (a := 1717922932) hx (OW_w (by decide) rfl) (ha.trans (by omega))]
                                                    decide
                                                · skip
                                                  refine Or.inl ⟨rfl, ?_⟩
                                                  rw [own_some (w := 5) (a := 108187867505765) hx (OW_w (by decide) rfl) (ha.trans (by omega))]
                                                  decide
                                              · skip
                                                refine Or.inl ⟨rfl, ?_⟩
                                                rw [own_some (w := 4) (a := 120299592184933) hx (OW_w (by decide) rfl) (ha.trans (by omega))]
                                                decide
                                            · skip
                                              refine Or.inl ⟨rfl, ?_⟩
                                              rw [own_some (w := 3) (a := 482854658917) hx (OW_w (by decide) rfl) (ha.trans (by omega))]
                                              decide
                                          · skip
                                            refine Or.inl ⟨rfl, ?_⟩
                                            rw [own_some (w := 0) (a := 439956431717) hx (OW_w (by decide) rfl) (ha.trans (by omega))]
                                            decide
                                        · skip
                                          refine Or.inl ⟨rfl, ?_⟩
                                          rw [own_some (w := 24) (a := 6384748) hx (OW_w (by decide) rfl) (ha.trans (by omega))]
                                          decide
                                      · skip
                                        refine Or.inl ⟨rfl, ?_⟩
                                        rw [own_some (w := 23) (a := 7237492) hx (OW_w (by decide) rfl) (ha.trans (by omega))]
                                        decide
                                    · skip
                                      refine Or.inl ⟨rfl, ?_⟩
                                      rw [own_some (w := 22) (a := 6385252) hx (OW_w (by decide) rfl) (ha.trans (by omega))]
                                      decide
                                  · skip
                                    refine Or.inl ⟨rfl, ?_⟩
                                    rw [own_some (w := 21) (a := 28530) hx (OW_w (by decide) rfl) (ha.trans (by omega))]
                                    decide
                                · skip
                                  refine Or.inl ⟨rfl, ?_⟩
                                  rw [own_some (w := 20) (a := 2003330414) hx (OW_w (by decide) rfl) (ha.trans (by omega))]
                                  decide
                              · skip
                                refine Or.inl ⟨rfl, ?_⟩
                                rw [own_some (w := 19) (a := 1684366704) hx (OW_w (by decide) rfl) (ha.trans (by omega))]
                                decide
                            · skip
                              refine Or.inl ⟨rfl, ?_⟩
                              rw [own_some (w := 18) (a := 1885434739) hx (OW_w (by decide) rfl) (ha.trans (by omega))]
                              decide
                          · skip
                            refine Or.inl ⟨rfl, ?_⟩
                            rw [own_some (w := 17) (a := 123563851081075) hx (OW_w (by decide) rfl) (ha.trans (by omega))]
                            decide
                        · skip
                          refine Or.inl ⟨rfl, ?_⟩
                          rw [own_some (w := 16) (a := 465491424371) hx (OW_w (by decide) rfl) (ha.trans (by omega))]
                          decide
                      · skip
                        refine Or.inl ⟨rfl, ?_⟩
                        rw [own_some (w := 15) (a := 7632231) hx (OW_w (by decide) rfl) (ha.trans (by omega))]
                        decide
                    · skip
                      refine Or.inl ⟨rfl, ?_⟩
                      rw [own_some (w := 14) (a := 431415976301) hx (OW_w (by decide) rfl) (ha.trans (by omega))]
                      decide
                  · skip
                    refine Or.inl ⟨rfl, ?_⟩
                    rw [own_some (w := 13) (a := 24948) hx (OW_w (by decide) rfl) (ha.trans (by omega))]
                    decide
                · skip
                  refine Or.inl ⟨rfl, ?_⟩
                  rw [own_some (w := 12) (a := 495739560811) hx (OW_w (by decide) rfl) (ha.trans (by omega))]
                  decide
              · skip
                refine Or.inl ⟨rfl, ?_⟩
                rw [own_some (w := 11) (a := 444133766004) hx (OW_w (by decide) rfl) (ha.trans (by omega))]
                decide
            · skip
              refine Or.inl ⟨rfl, ?_⟩
              rw [own_some (w := 10) (a := 126918153364851) hx (OW_w (by decide) rfl) (ha.trans (by omega))]
              decide
          · skip
            refine Or.inl ⟨rfl, ?_⟩
            rw [own_some (w := 9) (a := 483006377075) hx (OW_w (by decide) rfl) (ha.trans (by omega))]
            decide
        · skip
          refine Or.inl ⟨rfl, ?_⟩
          rw [own_some (w := 8) (a := 1868850291) hx (OW_w (by decide) rfl) (ha.trans (by omega))]
          decide
      · skip
        refine Or.inl ⟨rfl, ?_⟩
        rw [own_some (w := 2) (a := 431198598248) hx (OW_w (by decide) rfl) (ha.trans (by omega))]
        decide
    · skip
      refine Or.inl ⟨rfl, ?_⟩
      rw [own_some (w := 1) (a := 131277443786868) hx (OW_w (by decide) rfl) (ha.trans (by omega))]
      decide
  · skip
    refine Or.inl ⟨rfl, ?_⟩
    rw [own_some (w := 7) (a := 6451065) hx (OW_w (by decide) rfl) (ha.trans (by omega))]
    decide
set_option maxHeartbeats 4000000 in
theorem w_2320 {t : zK} {e : Nat} {d : zDS} {s0 : zF} {a0 x : Int} (D : DIR t e s0 d) (hx : c5 (c8 x) = x) (ha : c8 x = a0) : p_2320 s0 a0 (fun v _ => v = 1 ∧ tkL t d x = true ∨ v = 0 ∧ tkL t d x = false) := by
  obtain ⟨w, hw, h35, n1, n2, -⟩ := D
  refine ⟨fun g y2_1 v2_3 => y2_1 = a0 ∧ ∀ k : Nat, (k : Int) < v2_3 → s0 389 (12 * w + k) ≠ c8 x, fun g y44_1 v44_3 => y44_1 = a0 ∧ ((dB d).any fun p => t.2.1 (p + 1) == x) = false ∧ ∀ k : Nat, (k : Int) < v44_3 → s0 397 (6 * w + k) ≠ c8 x, ?_, ?_, ?_⟩
  · skip
    exact ⟨rfl, fun k hk => by omega⟩
  · intro g y2_1 v2_3 rg o1 o2 hI
    obtain ⟨hy, hk⟩ := hI
    have hg := zFr_nl rg
    intro x1 ex1 o4 o5 x8 ex8 o7 o8
    refine ⟨fun h9z => ?_, fun h9z => ?_⟩
    · skip
      intro x10 ex10 x12 ex12 y17 ey17 x18 ex18
      refine ⟨fun h14z => ?_, fun h14z => ?_⟩
      · skip
        intro x21 ex21
        have ew : x1.toNat = w := by
          have w1 : x1 = s0 386 35 := by rw [ex1, hg]
          omega
        have e8 : x8 = s0 388 w := by rw [ex8, ew, hg]
        have ey : y17 = s0 389 (12 * w + v2_3.toNat) := by
          rw [ey17, hg]
          congr 1
          omega
        refine ⟨hy, fun k hk2 => ?_⟩
        by_cases z : k = v2_3.toNat
        · rw [z, ← ey, ha]
          omega
        · exact hk k (by omega)
      · skip
        have ew : x1.toNat = w := by
          have w1 : x1 = s0 386 35 := by rw [ex1, hg]
          omega
        have e8 : x8 = s0 388 w := by rw [ex8, ew, hg]
        have ey : y17 = s0 389 (12 * w + v2_3.toNat) := by
          rw [ey17, hg]
          congr 1
          omega
        have l1 := n1.1
        refine Or.inl ⟨rfl, ?_⟩
        unfold tkL
        rw [NLr_1 n1 hx (k := v2_3.toNat) (by omega) (by rw [← ey, ha]; omega), Bool.true_or]
    · skip
      have ew : x1.toNat = w := by
        have w1 : x1 = s0 386 35 := by rw [ex1, hg]
        omega
      have e8 : x8 = s0 388 w := by rw [ex8, ew, hg]
      have l1 := n1.1
      exact ⟨hy, NLr_0 n1 hx (fun k hk2 => hk k (by omega)), fun k hk2 => by omega⟩
  · intro g y44_1 v44_3 rg o1 o2 hI
    obtain ⟨hy, hb, hk⟩ := hI
    have hg := zFr_nl rg
    intro x23 ex23 o4 o5 x30 ex30 o7 o8
    refine ⟨fun h9z => ?_, fun h9z => ?_⟩
    · skip
      intro x32 ex32 x34 ex34 y39 ey39 x40 ex40
      refine ⟨fun h14z => ?_, fun h14z => ?_⟩
      · skip
        intro x43 ex43
        have ew : x23.toNat = w := by
          have w1 : x23 = s0 386 35 := by rw [ex23, hg]
          omega
        have e8 : x30 = s0 396 w := by rw [ex30, ew, hg]
        have ey : y39 = s0 397 (6 * w + v44_3.toNat) := by
          rw [ey39, hg]
          congr 1
          omega
        refine ⟨hy, hb, fun k hk2 => ?_⟩
        by_cases z : k = v44_3.toNat
        · rw [z, ← ey, ha]
          omega
        · exact hk k (by omega)
      · skip
        have ew : x23.toNat = w := by
          have w1 : x23 = s0 386 35 := by rw [ex23, hg]
          omega
        have e8 : x30 = s0 396 w := by rw [ex30, ew, hg]
        have ey : y39 = s0 397 (6 * w + v44_3.toNat) := by
          rw [ey39, hg]
          congr 1
          omega
        have l1 := n2.1
        refine Or.inl ⟨rfl, ?_⟩
        unfold tkL
        rw [NLr_1 n2 hx (k := v44_3.toNat) (by omega) (by rw [← ey, ha]; omega), Bool.or_true]
    · skip
      have ew : x23.toNat = w := by
        have w1 : x23 = s0 386 35 := by rw [ex23, hg]
        omega
      have e8 : x30 = s0 396 w := by rw [ex30, ew, hg]
      have l1 := n2.1
      refine Or.inr ⟨rfl, ?_⟩
      unfold tkL
      rw [hb, NLr_0 n2 hx (fun k hk2 => hk k (by omega))]
      rfl
set_option maxHeartbeats 4000000 in
theorem w_2321 {T : Nat → Int} {L e : Nat} {t : zK} {P : Nat → Nat} {r : zP} {s0 : zF} (tk : Toks T L t.1 t.2.1 t.2.2 P e) (hT : s0 387 = T) (hL : s0 386 2 = (L : Int)) (hr : RSq t P e r s0) {a0 : Int} {w : Nat} (hw : OW w a0) : p_2321 s0 a0 (fun g => RSq t P e (zbd r (nOw t (w : Int))) g) := by
  unfold p_2321
  intro x1 ex1 o2 o3
  refine ⟨fun h4z => ?_, fun h4z => ?_⟩
  · skip
    exact rs_fault hr (by omega) (fun i h => nOw_bad (by omega) h)
  · skip
    intro x6 ex6 o6 o7
    refine ⟨fun h8z => ?_, fun h8z => ?_⟩
    · skip
      intro x11 ex11 o10 o11 g19 eg19 g24 eg24
      obtain ⟨i, rfl, hi, A⟩ := rs_ok hr (by omega)
      have g8 : g24 386 8 = 1 := by
        rw [eg24, zup_ne (Or.inr (by decide)), eg19, zup_eq]
      have g9 : g24 386 9 = x11 := by
        rw [eg24, zup_eq]
      exact rs_blame A (nOw_no (att_noword A (by omega)) (by omega)) g8 g9 (by omega)
    · skip
      intro y29 ey29 x30 ex30
      refine ⟨fun h11z => ?_, fun h11z => ?_⟩
      · skip
        intro x33 ex33 o13 o14 g41 eg41 g46 eg46
        obtain ⟨i, rfl, hi, A⟩ := rs_ok hr (by omega)
        have g8 : g46 386 8 = 1 := by
          rw [eg46, zup_ne (Or.inr (by decide)), eg41, zup_eq]
        have g9 : g46 386 9 = x33 := by
          rw [eg46, zup_eq]
        exact rs_blame A (nOw_else A (by omega) hw (by omega)) g8 g9 (by omega)
      · skip
        refine ⟨fun g' => AH (s0 387) (s0 386 2).toNat (s0 386 5).toNat g', ?_, ?_⟩
        · skip
          obtain ⟨ia, ra, hia, AA⟩ := rs_ok hr (by omega)
          have aa5 := AA.2.2.2.1
          exact w_2310 (by omega) (by omega) (by omega)
        · skip
          intro g53 rg53 qg53
          obtain ⟨i, rfl, hi, A⟩ := rs_ok hr (by omega)
          have ha : AH T L (s0 386 5).toNat g53 := by
            have q : AH (s0 387) (s0 386 2).toNat (s0 386 5).toNat g53 := qg53
            rw [hT, hL] at q
            exact q
          obtain ⟨hF, k2⟩ := nOw_yes A (by omega) hw (by omega)
          exact rs_next tk A hi (by omega) (by omega) hF ha
set_option maxHeartbeats 4000000 in
theorem w_2322 {T : Nat → Int} {L e : Nat} {t : zK} {P : Nat → Nat} {r : zP} {s0 : zF} (tk : Toks T L t.1 t.2.1 t.2.2 P e) (hT : s0 387 = T) (hL : s0 386 2 = (L : Int)) (hr : RSq t P e r s0) {a0 a1 : Int} : p_2322 s0 a0 a1 (fun v g => RSq t P e (zbd r (nNu t a0 a1)) g ∧ ∀ i j, r = .inl i → nNu t a0 a1 i = .inl j → v = t.2.1 i) := by
  unfold p_2322
  intro x1 ex1 o2 o3
  refine ⟨fun h4z => ?_, fun h4z => ?_⟩
  · skip
    refine ⟨rs_fault hr (by omega) (fun i h => nNu_bad h), fun i j h1 h2 => ?_⟩
    subst h1
    obtain ⟨q1, q2⟩ := hr
    rcases q2 with q2 | ⟨q2, -⟩
    · have := q2.2.1
      omega
    · rw [nNu_bad q2] at h2
      cases h2
  · skip
    intro x6 ex6 o6 o7
    refine ⟨fun h8z => ?_, fun h8z => ?_⟩
    · skip
      intro x11 ex11 o10 o11 g19 eg19 g24 eg24 x26 ex26
      obtain ⟨i, rfl, hi, A⟩ := rs_ok hr (by omega)
      have g8 : g24 386 8 = 1 := by
        rw [eg24, zup_ne (Or.inr (by decide)), eg19, zup_eq]
      have g9 : g24 386 9 = x11 := by
        rw [eg24, zup_eq]
      have n4 : t.1 i ≠ 4 := fun z => by
        have := (A.2.2.2.2.2.2.1 z).1
        omega
      refine ⟨rs_blame A (nNu_0 n4) g8 g9 (by omega), fun i2 j h1 h2 => ?_⟩
      cases h1
      rw [nNu_0 n4] at h2
      cases h2
    · skip
      intro x30 ex30
      refine ⟨fun h10z => ?_, fun h10z => ?_⟩
      · skip
        intro x35 ex35 o12 o13 g43 eg43 g48 eg48
        obtain ⟨i, rfl, hi, A⟩ := rs_ok hr (by omega)
        have g8 : g48 386 8 = 4 := by
          rw [eg48, zup_ne (Or.inr (by decide)), eg43, zup_eq]
        have g9 : g48 386 9 = x35 := by
          rw [eg48, zup_eq]
        have k4 : t.1 i = 4 ∧ s0 386 6 = t.2.1 i := by
          obtain ⟨a, -, -, -, b0, b2, b4, b5, b1⟩ := A
          have k : t.1 i = 4 := by
            rcases a with z | z | z | z | z
            · have := b0 z
              omega
            · have := (b1 z).1
              omega
            · have := (b2 z).1
              omega
            · exact z
            · have := (b5 z).1
              omega
          exact ⟨k, (b4 k).2⟩
        have hF : nNu t a0 a1 i = .inr (4, t.2.2 i) := nNu_4 k4.1 (by omega)
        refine ⟨rs_blame2 A hF (by decide) g8 g9 (by omega), fun i2 j h1 h2 => ?_⟩
        cases h1
        rw [hF] at h2
        cases h2
      · skip
        refine ⟨fun h11z => ?_, fun h11z => ?_⟩
        · skip
          intro x52 ex52 o13 o14 g60 eg60 g65 eg65
          obtain ⟨i, rfl, hi, A⟩ := rs_ok hr (by omega)
          have g8 : g65 386 8 = 4 := by
            rw [eg65, zup_ne (Or.inr (by decide)), eg60, zup_eq]
          have g9 : g65 386 9 = x52 := by
            rw [eg65, zup_eq]
          have k4 : t.1 i = 4 ∧ s0 386 6 = t.2.1 i := by
            obtain ⟨a, -, -, -, b0, b2, b4, b5, b1⟩ := A
            have k : t.1 i = 4 := by
              rcases a with z | z | z | z | z
              · have := b0 z
                omega
              · have := (b1 z).1
                omega
              · have := (b2 z).1
                omega
              · exact z
              · have := (b5 z).1
                omega
            exact ⟨k, (b4 k).2⟩
          have hF : nNu t a0 a1 i = .inr (4, t.2.2 i) := nNu_4 k4.1 (by omega)
          refine ⟨rs_blame2 A hF (by decide) g8 g9 (by omega), fun i2 j h1 h2 => ?_⟩
          cases h1
          rw [hF] at h2
          cases h2
        · skip
          refine ⟨fun g' => AH (s0 387) (s0 386 2).toNat (s0 386 5).toNat g', ?_, ?_⟩
          · skip
            obtain ⟨ia, ra, hia, AA⟩ := rs_ok hr (by omega)
            have aa5 := AA.2.2.2.1
            exact w_2310 (by omega) (by omega) (by omega)
          · skip
            intro g73 rg73 qg73
            obtain ⟨i, rfl, hi, A⟩ := rs_ok hr (by omega)
            have k4 : t.1 i = 4 ∧ s0 386 6 = t.2.1 i := by
              obtain ⟨a, -, -, -, b0, b2, b4, b5, b1⟩ := A
              have k : t.1 i = 4 := by
                rcases a with z | z | z | z | z
                · have := b0 z
                  omega
                · have := (b1 z).1
                  omega
                · have := (b2 z).1
                  omega
                · exact z
                · have := (b5 z).1
                  omega
              exact ⟨k, (b4 k).2⟩
            have ha : AH T L (s0 386 5).toNat g73 := by
              have q : AH (s0 387) (s0 386 2).toNat (s0 386 5).toNat g73 := qg73
              rw [hT, hL] at q
              exact q
            have hF : nNu t a0 a1 i = .inl (i + 1) := nNu_1 k4.1 (by omega)
            refine ⟨rs_next tk A hi (by omega) (by omega) hF ha, fun i2 j h1 h2 => ?_⟩
            cases h1
            omega
set_option maxHeartbeats 4000000 in
theorem w_2340 {T : Nat → Int} {L e : Nat} {t : zK} {P : Nat → Nat} {r : zP} {s0 : zF} (tk : Toks T L t.1 t.2.1 t.2.2 P e) (hT : s0 387 = T) (hL : s0 386 2 = (L : Int)) (hr : RSq t P e r s0) {a0 : Int} (ha0 : a0 = 59) : p_2340 s0 a0 (fun g => RSq t P e (zbd r (nSc t)) g) := by
  unfold p_2340
  intro x1 ex1 o2 o3
  refine ⟨fun h4z => ?_, fun h4z => ?_⟩
  · skip
    intro x6 ex6 o6 o7 x10 ex10 o9 o10
    refine ⟨fun h11z => ?_, fun h11z => ?_⟩
    · skip
      exact rs_fault hr (by omega) (fun i h => nSc_bad h)
    · skip
      intro g19 eg19 g24 eg24
      obtain ⟨i, rfl, hi, A⟩ := rs_ok hr (by omega)
      have g8 : g24 386 8 = 1 := by
        rw [eg24, zup_ne (Or.inr (by decide)), eg19, zup_eq]
      have g9 : g24 386 9 = x6 := by
        rw [eg24, zup_eq]
      exact rs_blame A (nSc_0 (att_nsg A (by decide) (fun z => by omega))) g8 g9 (by omega)
  · skip
    intro x26 ex26
    refine ⟨fun h6z => ?_, fun h6z => ?_⟩
    · skip
      intro x31 ex31 o8 o9 x35 ex35 o11 o12
      refine ⟨fun h13z => ?_, fun h13z => ?_⟩
      · skip
        exact rs_fault hr (by omega) (fun i h => nSc_bad h)
      · skip
        intro g44 eg44 g49 eg49
        obtain ⟨i, rfl, hi, A⟩ := rs_ok hr (by omega)
        have g8 : g49 386 8 = 1 := by
          rw [eg49, zup_ne (Or.inr (by decide)), eg44, zup_eq]
        have g9 : g49 386 9 = x31 := by
          rw [eg49, zup_eq]
        exact rs_blame A (nSc_0 (att_nsg A (by decide) (fun z => by omega))) g8 g9 (by omega)
    · skip
      intro x51 ex51 o8 o9
      refine ⟨fun h10z => ?_, fun h10z => ?_⟩
      · skip
        exact rs_fault hr (by omega) (fun i h => nSc_bad h)
      · skip
        refine ⟨fun g' => AH (s0 387) (s0 386 2).toNat (s0 386 5).toNat g', ?_, ?_⟩
        · skip
          obtain ⟨ia, ra, hia, AA⟩ := rs_ok hr (by omega)
          have aa5 := AA.2.2.2.1
          exact w_2310 (by omega) (by omega) (by omega)
        · skip
          intro g61 rg61 qg61
          obtain ⟨i, rfl, hi, A⟩ := rs_ok hr (by omega)
          have ha : AH T L (s0 386 5).toNat g61 := by
            have q : AH (s0 387) (s0 386 2).toNat (s0 386 5).toNat g61 := qg61
            rw [hT, hL] at q
            exact q
          have sg : sgB t 59 i = true := (att_sg A (by decide)).mpr ⟨by omega, by omega⟩
          have k5 := (sgB_iff.mp sg).1
          exact rs_next tk A hi (by omega) (by omega) (nSc_1 sg) ha
set_option maxHeartbeats 4000000 in
theorem w_2318 {T : Nat → Int} {L e : Nat} {t : zK} {P : Nat → Nat} {r : zP} {s0 : zF} (tk : Toks T L t.1 t.2.1 t.2.2 P e) (hT : s0 387 = T) (hL : s0 386 2 = (L : Int)) (hr : RSq t P e r s0) {d : zDS} (D : DIR t e s0 d) : p_2318 s0 (fun v g => RSq t P e (zbd r (nNa t (tkL t d))) g ∧ ∀ i j, r = .inl i → nNa t (tkL t d) i = .inl j → v = c8 (t.2.1 i) ∧ c5 (c8 (t.2.1 i)) = t.2.1 i ∧ t.1 i = 2 ∧ i ≤ e) := by
  unfold p_2318
  intro x1 ex1 o2 o3
  refine ⟨fun h4z => ?_, fun h4z => ?_⟩
  · skip
    refine ⟨rs_fault hr (by omega) (fun i h => nNa_bad h), fun i j h1 h2 => ?_⟩
    subst h1
    obtain ⟨q1, q2⟩ := hr
    rcases q2 with q2 | ⟨q2, -⟩
    · have := q2.2.1
      omega
    · rw [nNa_bad q2] at h2
      cases h2
  · skip
    intro x6 ex6 o6 o7
    refine ⟨fun h8z => ?_, fun h8z => ?_⟩
    · skip
      intro x11 ex11 o10 o11 g19 eg19 g24 eg24 y29 ey29
      obtain ⟨i, rfl, hi, A⟩ := rs_ok hr (by omega)
      have g8 : g24 386 8 = 1 := by
        rw [eg24, zup_ne (Or.inr (by decide)), eg19, zup_eq]
      have g9 : g24 386 9 = x11 := by
        rw [eg24, zup_eq]
      have hF : nNa t (tkL t d) i = .inr (flt t i) := nNa_0 (fun z => att_noword A (by omega) z.1)
      refine ⟨rs_blame A hF g8 g9 (by omega), fun i2 j h1 h2 => ?_⟩
      cases h1
      rw [hF] at h2
      cases h2
    · skip
      intro y33 ey33
      obtain ⟨i, rfl, hi, A⟩ := rs_ok hr (by omega)
      obtain ⟨k2, w1, w2⟩ := att_word A (by omega)
      have hx : c5 (c8 (t.2.1 i)) = t.2.1 i := (A.2.2.2.2.2.1 k2).2.2
      
      refine ⟨fun v _ => v = 1 ∧ owI (t.2.1 i) ≠ -1 ∨ v = 0 ∧ owI (t.2.1 i) = -1, ?_, ?_⟩
      · skip
        exact w_2319 hx (by omega)
      · skip
        intro x39 o10 o11 g42 rg42 qg42
        refine ⟨fun h14z => ?_, fun h14z => ?_⟩
        · skip
          intro x45 ex45 o16 o17 g54 eg54 g59 eg59
          have G1 : g42 = s0 := zFr_nl rg42
          have Q1 : _ ∨ _ := qg42
          have tI : tokI t i = owI (t.2.1 i) := if_pos k2
          have g8 : g59 386 8 = 1 := by
            rw [eg59, zup_ne (Or.inr (by decide)), eg54, zup_eq]
          have g9 : g59 386 9 = x45 := by
            rw [eg59, zup_eq]
          have hF : nNa t (tkL t d) i = .inr (flt t i) := nNa_0 (fun z => by
            have := z.2
            omega)
          rw [G1] at ex45
          refine ⟨rs_blame A hF g8 g9 (by omega), fun i2 j h1 h2 => ?_⟩
          cases h1
          rw [hF] at h2
          cases h2
        · skip
          refine ⟨fun v _ => v = 1 ∧ tkL t d (t.2.1 i) = true ∨ v = 0 ∧ tkL t d (t.2.1 i) = false, ?_, ?_⟩
          · skip
            have G1 : g42 = s0 := zFr_nl rg42
            rw [G1]
            exact w_2320 D hx (by omega)
          · skip
            intro x69 o15 o16 g72 rg72 qg72
            refine ⟨fun h19z => ?_, fun h19z => ?_⟩
            · skip
              intro x75 ex75 o21 o22 g84 eg84 g89 eg89
              have G1 : g42 = s0 := zFr_nl rg42
              have Q1 : _ ∨ _ := qg42
              have G2 : g72 = s0 := (zFr_nl rg72).trans G1
              have Q2 : _ ∨ _ := qg72
              have tI : tokI t i = owI (t.2.1 i) := if_pos k2
              have g8 : g89 386 8 = 2 := by
                rw [eg89, zup_ne (Or.inr (by decide)), eg84, zup_eq]
              have g9 : g89 386 9 = x75 := by
                rw [eg89, zup_eq]
              have kt : tkL t d (t.2.1 i) = true := by
                rcases Q2 with ⟨-, z⟩ | ⟨z, -⟩
                · exact z
                · omega
              have hF : nNa t (tkL t d) i = .inr (2, t.2.2 i) := nNa_2 ⟨k2, by omega⟩ kt
              rw [G2] at ex75
              refine ⟨rs_blame2 A hF (by decide) g8 g9 (by omega), fun i2 j h1 h2 => ?_⟩
              cases h1
              rw [hF] at h2
              cases h2
            · skip
              refine ⟨fun g' => AH (g72 387) (g72 386 2).toNat (g72 386 5).toNat g', ?_, ?_⟩
              · skip
                have G1 : g42 = s0 := zFr_nl rg42
                have G2 : g72 = s0 := (zFr_nl rg72).trans G1
                have aa5 := A.2.2.2.1
                rw [G2]
                exact w_2310 (by omega) (by omega) (by omega)
              · skip
                intro g99 rg99 qg99
                have G1 : g42 = s0 := zFr_nl rg42
                have Q1 : _ ∨ _ := qg42
                have G2 : g72 = s0 := (zFr_nl rg72).trans G1
                have Q2 : _ ∨ _ := qg72
                have tI : tokI t i = owI (t.2.1 i) := if_pos k2
                have q := qg99
                rw [G2] at q
                have ha : AH T L (s0 386 5).toNat g99 := by
                  have q2 : AH (s0 387) (s0 386 2).toNat (s0 386 5).toNat g99 := q
                  rw [hT, hL] at q2
                  exact q2
                have kt : tkL t d (t.2.1 i) = false := by
                  rcases Q2 with ⟨z, -⟩ | ⟨-, z⟩
                  · omega
                  · exact z
                have hF : nNa t (tkL t d) i = .inl (i + 1) := nNa_1 ⟨k2, by omega⟩ kt
                refine ⟨rs_next tk A hi (by omega) (by omega) hF ha, fun i2 j h1 h2 => ?_⟩
                cases h1
                exact ⟨by omega, hx, k2, hi⟩
set_option maxHeartbeats 4000000 in
theorem w_2324 {T : Nat → Int} {L e : Nat} {t : zK} {P : Nat → Nat} {r : zP} {s0 : zF} (tk : Toks T L t.1 t.2.1 t.2.2 P e) (hT : s0 387 = T) (hL : s0 386 2 = (L : Int)) (hr : RSq t P e r s0) {a0 : Int} : p_2324 s0 a0 (fun g => RSq t P e (zbd r (mkG t 3 0)) g) := by
  refine ⟨fun g v7_1 => ∃ r1 f, RSq t P e r1 g ∧ zbd r (mkG t 3 0) = zbd r1 (mkG t f (g 394 v7_1.toNat)) ∧ (f = 3 ∧ g 394 v7_1.toNat = 0 ∨ f = 2 ∧ (g 394 v7_1.toNat = 1 ∨ g 394 v7_1.toNat = 2) ∨ f = 1 ∧ g 394 v7_1.toNat = 3 ∨ 0 < g 386 8), fun g v67_1 v67_2 => ∃ i f, i ≤ e ∧ ATT t P i g ∧ zbd r (mkG t 3 0) = .inr (flt t i) ∧ f = (0 : Nat), ?_, ?_, ?_⟩
  · skip
    intro o1 g131 eg131
    have z : g131 394 a0.toNat = 0 := by rw [eg131, zup_eq]
    refine ⟨r, 3, ?_, by rw [z], Or.inl ⟨rfl, z⟩⟩
    rw [eg131]
    exact RSq_st hr (by decide)
  · intro g v7_1 rg o1 o2 hI
    obtain ⟨r1, f, R1, hq, hm⟩ := hI
    have t387 : g 387 = T := (rg.a (by decide)).trans hT
    have t2 : g 386 2 = (L : Int) := (rg.s (by decide)).trans hL
    intro x1 ex1 o4 o5
    refine ⟨fun h6z => ?_, fun h6z => ?_⟩
    · skip
      rw [hq]
      cases r1 with
      | inr f => exact R1
      | inl i =>
        obtain ⟨h1, h2⟩ := R1
        rcases h2 with h2 | h2
        · have := h2.2.1
          omega
        · show RSq t P e (mkG t f _ i) g
          rw [mkG_bad h2.1]
          exact ⟨h1, Or.inr h2⟩
    · skip
      intro x6 ex6 o8 o9
      refine ⟨fun h10z => ?_, fun h10z => ?_⟩
      · skip
        obtain ⟨i, rfl, hi, A⟩ := rs_ok R1 (by omega)
        have k2 : t.1 i ≠ 2 := fun z => by
          have := (att_k3 A).2.1.mp z
          omega
        have kI : tokI t i = -1 := tokI_n k2
        rw [hq]
        show RSq t P e (mkG t f _ i) g
        have em : mkG t f (g 394 v7_1.toNat) i = .inl i := by
          cases f with
          | zero => exact if_neg k2
          | succ f => rw [mkG, if_neg (by omega), if_neg (by omega), if_neg k2]
        rw [em]
        exact ⟨hi, Or.inl A⟩
      · skip
        intro y14 ey14 x15 ex15
        refine ⟨fun h13z => ?_, fun h13z => ?_⟩
        · skip
          intro x18 ex18
          refine ⟨fun h15z => ?_, fun h15z => ?_⟩
          · skip
            obtain ⟨i, rfl, hi, A⟩ := rs_ok R1 (by omega)
            have k2 : t.1 i = 2 := (att_k3 A).2.1.mpr (by omega)
            have n10 : tokI t i ≠ 10 := att_now A (w := 10) (a := 126918153364851) (OW_w (by decide) rfl) (fun z => by omega)
            have n11 : tokI t i ≠ 11 := att_now A (w := 11) (a := 444133766004) (OW_w (by decide) rfl) (fun z => by omega)
            refine ⟨i, 0, hi, A, ?_, rfl⟩
            rw [hq]
            show mkG t f (g 394 v7_1.toNat) i = _
            cases f with
            | zero => exact if_pos k2
            | succ f => rw [mkG, if_neg n10, if_neg n11, if_pos k2]
          · skip
            intro x24 ex24 o17 o18 x26 ex26 o20 o21
            refine ⟨fun h22z => ?_, fun h22z => ?_⟩
            · skip
              obtain ⟨i, rfl, hi, A⟩ := rs_ok R1 (by omega)
              have k2 : t.1 i = 2 := (att_k3 A).2.1.mpr (by omega)
              have k10 : tokI t i = 11 := (att_own A (w := 11) (a := 444133766004) (OW_w (by decide) rfl)).mpr ⟨by omega, by omega⟩
              have a8 := A.2.1
              have em : x24 = g 394 v7_1.toNat := ex24
              have kz : ¬(x24 = 0 ∨ x24 = 1) := fun z => by
                have := (zxand_2 (m := x24) (by omega) (by omega)).mpr z
                omega
              refine ⟨i, 0, hi, A, ?_, rfl⟩
              rw [hq]
              show mkG t f (g 394 v7_1.toNat) i = _
              obtain ⟨f', rfl⟩ : ∃ f', f = f' + 1 := ⟨f - 1, by omega⟩
              rw [mkG, if_neg (by omega), if_pos k10, if_pos (by omega)]
            · skip
              intro x34 ex34 o24 o25 g41 eg41
              refine ⟨fun g' => AH (g41 387) (g41 386 2).toNat (g41 386 5).toNat g', ?_, ?_⟩
              · skip
                obtain ⟨i, rfl, hi, A⟩ := rs_ok R1 (by omega)
                have aa5 := A.2.2.2.1
                have a8 := A.2.1
                exact w_2310 (by rw [eg41, zup_ne (Or.inl (by decide))]; exact a8) (by rw [eg41, zup_ne (Or.inl (by decide))]; omega) (by rw [eg41, zup_ne (Or.inl (by decide))]; omega)
              · skip
                intro g48 rg48 qg48
                obtain ⟨i, rfl, hi, A⟩ := rs_ok R1 (by omega)
                have k2 : t.1 i = 2 := (att_k3 A).2.1.mpr (by omega)
                have k10 : tokI t i = 11 := (att_own A (w := 11) (a := 444133766004) (OW_w (by decide) rfl)).mpr ⟨by omega, by omega⟩
                have a8 := A.2.1
                have em : x24 = g 394 v7_1.toNat := ex24
                have kz := (zxand_2 (m := x24) (by omega) (by omega)).mp (by omega)
                have ko := zxor_2 kz
                have mk : g48 394 v7_1.toNat = x24 + 2 := by
                  rw [rg48.a (by decide), eg41, zup_eq]
                  omega
                have A1 : ATT t P i g41 := by
                  rw [eg41]
                  exact ATT_fr A fun _ _ _ => zup_ne (Or.inl (by decide))
                obtain ⟨f', rfl⟩ : ∃ f', f = f' + 1 := ⟨f - 1, by omega⟩
                have T1 : g41 387 = T := by rw [eg41, zup_na (by decide), t387]
                have L1 : g41 386 2 = (L : Int) := by rw [eg41, zup_ne (Or.inl (by decide)), t2]
                have ha : AH T L (g41 386 5).toNat g48 := by
                  have q : AH (g41 387) (g41 386 2).toNat (g41 386 5).toNat g48 := qg48
                  rw [T1, L1] at q
                  exact q
                refine ⟨.inl (i + 1), f', rs_next (F := fun k => .inl (k + 1)) tk A1 hi (by omega) (by omega) rfl ha, ?_, by omega⟩
                rw [hq]
                show mkG t (f' + 1) (g 394 v7_1.toNat) i = mkG t f' (g48 394 v7_1.toNat) (i + 1)
                rw [mkG, if_neg (by omega), if_pos k10, if_neg (by omega), mk, em]
        · skip
          intro x53 ex53 o15 o16 x55 ex55 o18 o19
          refine ⟨fun h20z => ?_, fun h20z => ?_⟩
          · skip
            obtain ⟨i, rfl, hi, A⟩ := rs_ok R1 (by omega)
            have k2 : t.1 i = 2 := (att_k3 A).2.1.mpr (by omega)
            have k10 : tokI t i = 10 := (att_own A (w := 10) (a := 126918153364851) (OW_w (by decide) rfl)).mpr ⟨by omega, by omega⟩
            have a8 := A.2.1
            have em : x53 = g 394 v7_1.toNat := ex53
            have kz : ¬(x53 = 0 ∨ x53 = 2) := fun z => by
              have := (zxand_1 (m := x53) (by omega) (by omega)).mpr z
              omega
            refine ⟨i, 0, hi, A, ?_, rfl⟩
            rw [hq]
            show mkG t f (g 394 v7_1.toNat) i = _
            obtain ⟨f', rfl⟩ : ∃ f', f = f' + 1 := ⟨f - 1, by omega⟩
            rw [mkG, if_pos k10, if_pos (by omega)]
          · skip
            intro x63 ex63 o22 o23 g70 eg70
            refine ⟨fun g' => AH (g70 387) (g70 386 2).toNat (g70 386 5).toNat g', ?_, ?_⟩
            · skip
              obtain ⟨i, rfl, hi, A⟩ := rs_ok R1 (by omega)
              have aa5 := A.2.2.2.1
              have a8 := A.2.1
              exact w_2310 (by rw [eg70, zup_ne (Or.inl (by decide))]; exact a8) (by rw [eg70, zup_ne (Or.inl (by decide))]; omega) (by rw [eg70, zup_ne (Or.inl (by decide))]; omega)
            · skip
              intro g77 rg77 qg77
              obtain ⟨i, rfl, hi, A⟩ := rs_ok R1 (by omega)
              have k2 : t.1 i = 2 := (att_k3 A).2.1.mpr (by omega)
              have k10 : tokI t i = 10 := (att_own A (w := 10) (a := 126918153364851) (OW_w (by decide) rfl)).mpr ⟨by omega, by omega⟩
              have a8 := A.2.1
              have em : x53 = g 394 v7_1.toNat := ex53
              have kz := (zxand_1 (m := x53) (by omega) (by omega)).mp (by omega)
              have ko := zxor_1 kz
              have mk : g77 394 v7_1.toNat = x53 + 1 := by
                rw [rg77.a (by decide), eg70, zup_eq]
                omega
              have A1 : ATT t P i g70 := by
                rw [eg70]
                exact ATT_fr A fun _ _ _ => zup_ne (Or.inl (by decide))
              obtain ⟨f', rfl⟩ : ∃ f', f = f' + 1 := ⟨f - 1, by omega⟩
              have T1 : g70 387 = T := by rw [eg70, zup_na (by decide), t387]
              have L1 : g70 386 2 = (L : Int) := by rw [eg70, zup_ne (Or.inl (by decide)), t2]
              have ha : AH T L (g70 386 5).toNat g77 := by
                have q : AH (g70 387) (g70 386 2).toNat (g70 386 5).toNat g77 := qg77
                rw [T1, L1] at q
                exact q
              refine ⟨.inl (i + 1), f', rs_next (F := fun k => .inl (k + 1)) tk A1 hi (by omega) (by omega) rfl ha, ?_, by omega⟩
              rw [hq]
              show mkG t (f' + 1) (g 394 v7_1.toNat) i = mkG t f' (g77 394 v7_1.toNat) (i + 1)
              rw [mkG, if_pos k10, if_neg (by omega), mk, em]
  · intro g v67_1 v67_2 rg o1 o2 o3 o4 hI
    obtain ⟨i, f, hi, A, hq, -⟩ := hI
    have t387 : g 387 = T := (rg.a (by decide)).trans hT
    have t2 : g 386 2 = (L : Int) := (rg.s (by decide)).trans hL
    intro x79 ex79 o6 o7 x83 ex83 o9 o10
    refine ⟨fun h11z => ?_, fun h11z => ?_⟩
    · skip
      intro x91 ex91 o13 o14 x93 ex93 o16 o17 g100 eg100
      exfalso
      have := A.2.1
      omega
    · skip
      intro g106 eg106 g111 eg111 x115 ex115 o15 o16 x117 ex117 o18 o19 g124 eg124
      have g8 : g124 386 8 = 1 := by
        rw [eg124, zup_ne (Or.inl (by decide)), eg111, zup_ne (Or.inr (by decide)), eg106, zup_eq]
      have g9 : g124 386 9 = x79 := by
        rw [eg124, zup_ne (Or.inl (by decide)), eg111, zup_eq]
      refine ⟨.inr (flt t i), 0, ⟨?_, ?_, ?_⟩, hq, Or.inr (Or.inr (Or.inr (by omega)))⟩
      · rw [g8]
        unfold flt
        rfl
      · rw [g9, ← att_flt A]
        omega
      · show (0 : Int) < 1
        decide
