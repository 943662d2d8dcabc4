/-! partial proofs of the image, the reference (wip/safe/vcp.py) -/
set_option maxHeartbeats 4000000 in
theorem w_2428 {s0 : zF} : p_2428 s0 (fun v g => g = s0 ∧ v = KNM (NBR s0)) := by
  unfold p_2428
  intro x1 ex1 o2 o3 x8 ex8 o5 o6
  refine ⟨fun h7z => ?_, fun h7z => ?_⟩
  · skip
    intro x13 ex13
    have Zx1 := ex1
    have Nx8 : x8 = NBR s0 := by
      rw [ex8, Zx1]
      rfl
    refine ⟨rfl, ?_⟩
    rw [← KNM_p (by omega)]
    omega
  · skip
    have Zx1 := ex1
    have Nx8 : x8 = NBR s0 := by
      rw [ex8, Zx1]
      rfl
    exact ⟨rfl, KNM_0 (by omega)⟩
set_option maxHeartbeats 4000000 in
theorem w_2429 {s0 : zF} {a0 : Int} (h0 : 0 ≤ a0) : p_2429 s0 a0 (fun v g => g = s0 ∧ (v = 1 ∧ (s0 387 a0.toNat < NBR s0 ∧ BON (s0 387) a0.toNat (NDR s0) (LASR s0) (MKR s0)) ∨ v = 0 ∧ ¬(s0 387 a0.toNat < NBR s0 ∧ BON (s0 387) a0.toNat (NDR s0) (LASR s0) (MKR s0)))) := by
  refine ⟨fun g v129_1 v129_2 v129_3 v129_4 => v129_1 = a0 ∧ v129_2 = s0 387 a0.toNat ∧ v129_3 = s0 387 (a0.toNat + 2) - 1 ∧ v129_4 = s0 387 (a0.toNat + 4) - 1 ∧ s0 387 a0.toNat < NBR s0 ∧ s0 387 (a0.toNat + 1) ≤ 1 ∧ s0 387 (a0.toNat + 2) - 1 < NDR s0 ∧ s0 387 (a0.toNat + 4) - 1 < NDR s0 ∧ (s0 387 (a0.toNat + 2) = 0 → s0 387 (a0.toNat + 3) = 0) ∧ (s0 387 (a0.toNat + 2) ≠ 0 → 1 ≤ s0 387 (a0.toNat + 3) ∧ s0 387 (a0.toNat + 3) ≤ LASR s0 (s0 387 (a0.toNat + 2) - 1).toNat), fun g v140_1 v140_2 v140_3 v140_4 => v140_1 = a0 ∧ v140_2 = s0 387 a0.toNat ∧ v140_3 = s0 387 (a0.toNat + 2) - 1 ∧ v140_4 = s0 387 (a0.toNat + 4) - 1 ∧ s0 387 a0.toNat < NBR s0 ∧ (s0 387 (a0.toNat + 2) ≠ 0 ∨ s0 387 (a0.toNat + 4) ≠ 0) ∧ s0 387 (a0.toNat + 1) ≤ 1 ∧ s0 387 (a0.toNat + 2) - 1 < NDR s0 ∧ s0 387 (a0.toNat + 4) - 1 < NDR s0 ∧ (s0 387 (a0.toNat + 2) = 0 → s0 387 (a0.toNat + 3) = 0) ∧ (s0 387 (a0.toNat + 2) ≠ 0 → 1 ≤ s0 387 (a0.toNat + 3) ∧ s0 387 (a0.toNat + 3) ≤ LASR s0 (s0 387 (a0.toNat + 2) - 1).toNat), fun g v159_1 v159_3 v159_4 => v159_1 = a0 ∧ v159_3 = s0 387 (a0.toNat + 2) - 1 ∧ v159_4 = s0 387 (a0.toNat + 4) - 1 ∧ s0 387 a0.toNat < NBR s0 ∧ (s0 387 (a0.toNat + 2) ≠ 0 ∨ s0 387 (a0.toNat + 4) ≠ 0 → s0 387 (a0.toNat + 1) = 1 ∧ zxand (MKR s0 (s0 387 a0.toNat).toNat) 2 = 0) ∧ s0 387 (a0.toNat + 1) ≤ 1 ∧ s0 387 (a0.toNat + 2) - 1 < NDR s0 ∧ s0 387 (a0.toNat + 4) - 1 < NDR s0 ∧ (s0 387 (a0.toNat + 2) = 0 → s0 387 (a0.toNat + 3) = 0) ∧ (s0 387 (a0.toNat + 2) ≠ 0 → 1 ≤ s0 387 (a0.toNat + 3) ∧ s0 387 (a0.toNat + 3) ≤ LASR s0 (s0 387 (a0.toNat + 2) - 1).toNat), fun g v172_1 => v172_1 = a0 ∧ ¬(s0 387 (a0.toNat + 2) ≠ 0 ∧ s0 387 (a0.toNat + 4) ≠ 0) ∧ s0 387 a0.toNat < NBR s0 ∧ (s0 387 (a0.toNat + 2) ≠ 0 ∨ s0 387 (a0.toNat + 4) ≠ 0 → s0 387 (a0.toNat + 1) = 1 ∧ zxand (MKR s0 (s0 387 a0.toNat).toNat) 2 = 0) ∧ s0 387 (a0.toNat + 1) ≤ 1 ∧ s0 387 (a0.toNat + 2) - 1 < NDR s0 ∧ s0 387 (a0.toNat + 4) - 1 < NDR s0 ∧ (s0 387 (a0.toNat + 2) = 0 → s0 387 (a0.toNat + 3) = 0) ∧ (s0 387 (a0.toNat + 2) ≠ 0 → 1 ≤ s0 387 (a0.toNat + 3) ∧ s0 387 (a0.toNat + 3) ≤ LASR s0 (s0 387 (a0.toNat + 2) - 1).toNat), ?_, ?_, ?_, ?_, ?_⟩
  · skip
    intro x49 ex49 o2 o3 x50 ex50 x55 ex55 o6 o7 x56 ex56 x58 ex58 x63 ex63 o11 o12 x64 ex64 x66 ex66 o15 o16 x73 ex73 o18 o19
    refine ⟨fun h20z => ?_, fun h20z => ?_⟩
    · skip
      intro x75 ex75 x80 ex80 o23 o24
      refine ⟨fun h25z => ?_, fun h25z => ?_⟩
      · skip
        have Zx66 := ex66
        have Nx73 : x73 = NBR s0 := by
          rw [ex73, Zx66]
          rfl
        rw [show x50.toNat = a0.toNat + 2 by omega] at ex55
        rw [show x58.toNat = a0.toNat + 4 by omega] at ex63
        rw [show x75.toNat = a0.toNat + 1 by omega] at ex80
        refine ⟨rfl, Or.inr ⟨rfl, fun z => ?_⟩⟩
        obtain ⟨z0, b1, b2, b3, b4, b5, b6, b7, b8⟩ := z
        clear b6
        first
        | omega
        | (have c := b5 (by omega)
           omega)
        | (have c := b4 (by omega)
           omega)
      · skip
        intro x85 ex85 o27 o28
        refine ⟨fun h29z => ?_, fun h29z => ?_⟩
        · skip
          refine ⟨fun h30z => ?_, fun h30z => ?_⟩
          · skip
            refine ⟨fun h31z => ?_, fun h31z => ?_⟩
            · skip
              intro x92 ex92 x97 ex97 o34 o35 x98 ex98 x100 ex100 x105 ex105
              refine ⟨fun h39z => ?_, fun h39z => ?_⟩
              · skip
                have Zx66 := ex66
                have Nx73 : x73 = NBR s0 := by
                  rw [ex73, Zx66]
                  rfl
                have Nx85 : x85 = NDR s0 := by
                  rw [ex85, Zx66]
                  rfl
                rw [show x50.toNat = a0.toNat + 2 by omega] at ex55
                rw [show x58.toNat = a0.toNat + 4 by omega] at ex63
                rw [show x75.toNat = a0.toNat + 1 by omega] at ex80
                rw [show x92.toNat = a0.toNat + 3 by omega] at ex97
                have Lx105 : x105 = LASR s0 (s0 387 (a0.toNat + 2) - 1).toNat := by
                  rw [ex105, show x100.toNat = 6 * (s0 386 12).toNat + (s0 387 (a0.toNat + 2) - 1).toNat by omega]
                  rfl
                refine ⟨rfl, Or.inr ⟨rfl, fun z => ?_⟩⟩
                obtain ⟨z0, b1, b2, b3, b4, b5, b6, b7, b8⟩ := z
                clear b6
                first
                | omega
                | (have c := b5 (by omega)
                   omega)
                | (have c := b4 (by omega)
                   omega)
              · skip
                refine ⟨fun h40z => ?_, fun h40z => ?_⟩
                · skip
                  have Zx66 := ex66
                  have Nx73 : x73 = NBR s0 := by
                    rw [ex73, Zx66]
                    rfl
                  have Nx85 : x85 = NDR s0 := by
                    rw [ex85, Zx66]
                    rfl
                  rw [show x50.toNat = a0.toNat + 2 by omega] at ex55
                  rw [show x58.toNat = a0.toNat + 4 by omega] at ex63
                  rw [show x75.toNat = a0.toNat + 1 by omega] at ex80
                  rw [show x92.toNat = a0.toNat + 3 by omega] at ex97
                  have Lx105 : x105 = LASR s0 (s0 387 (a0.toNat + 2) - 1).toNat := by
                    rw [ex105, show x100.toNat = 6 * (s0 386 12).toNat + (s0 387 (a0.toNat + 2) - 1).toNat by omega]
                    rfl
                  refine ⟨rfl, Or.inr ⟨rfl, fun z => ?_⟩⟩
                  obtain ⟨z0, b1, b2, b3, b4, b5, b6, b7, b8⟩ := z
                  clear b6
                  first
                  | omega
                  | (have c := b5 (by omega)
                     omega)
                  | (have c := b4 (by omega)
                     omega)
                · skip
                  have Zx66 := ex66
                  have Nx73 : x73 = NBR s0 := by
                    rw [ex73, Zx66]
                    rfl
                  have Nx85 : x85 = NDR s0 := by
                    rw [ex85, Zx66]
                    rfl
                  rw [show x50.toNat = a0.toNat + 2 by omega] at ex55
                  rw [show x58.toNat = a0.toNat + 4 by omega] at ex63
                  rw [show x75.toNat = a0.toNat + 1 by omega] at ex80
                  rw [show x92.toNat = a0.toNat + 3 by omega] at ex97
                  have Lx105 : x105 = LASR s0 (s0 387 (a0.toNat + 2) - 1).toNat := by
                    rw [ex105, show x100.toNat = 6 * (s0 386 12).toNat + (s0 387 (a0.toNat + 2) - 1).toNat by omega]
                    rfl
                  refine ⟨rfl, by omega, by omega, by omega, by omega, by omega, by omega, by omega, fun z => by omega, fun z => ?_⟩
                  rw [← Lx105]
                  exact ⟨by omega, by omega⟩
            · skip
              intro x108 ex108 x113 ex113 o34 o35
              refine ⟨fun h36z => ?_, fun h36z => ?_⟩
              · skip
                have Zx66 := ex66
                have Nx73 : x73 = NBR s0 := by
                  rw [ex73, Zx66]
                  rfl
                have Nx85 : x85 = NDR s0 := by
                  rw [ex85, Zx66]
                  rfl
                rw [show x50.toNat = a0.toNat + 2 by omega] at ex55
                rw [show x58.toNat = a0.toNat + 4 by omega] at ex63
                rw [show x75.toNat = a0.toNat + 1 by omega] at ex80
                rw [show x108.toNat = a0.toNat + 3 by omega] at ex113
                refine ⟨rfl, Or.inr ⟨rfl, fun z => ?_⟩⟩
                obtain ⟨z0, b1, b2, b3, b4, b5, b6, b7, b8⟩ := z
                clear b6
                first
                | omega
                | (have c := b5 (by omega)
                   omega)
                | (have c := b4 (by omega)
                   omega)
              · skip
                have Zx66 := ex66
                have Nx73 : x73 = NBR s0 := by
                  rw [ex73, Zx66]
                  rfl
                have Nx85 : x85 = NDR s0 := by
                  rw [ex85, Zx66]
                  rfl
                rw [show x50.toNat = a0.toNat + 2 by omega] at ex55
                rw [show x58.toNat = a0.toNat + 4 by omega] at ex63
                rw [show x75.toNat = a0.toNat + 1 by omega] at ex80
                rw [show x108.toNat = a0.toNat + 3 by omega] at ex113
                refine ⟨rfl, by omega, by omega, by omega, by omega, by omega, by omega, by omega, fun z => by omega, fun z => ?_⟩
                exfalso
                omega
          · skip
            have Zx66 := ex66
            have Nx73 : x73 = NBR s0 := by
              rw [ex73, Zx66]
              rfl
            have Nx85 : x85 = NDR s0 := by
              rw [ex85, Zx66]
              rfl
            rw [show x50.toNat = a0.toNat + 2 by omega] at ex55
            rw [show x58.toNat = a0.toNat + 4 by omega] at ex63
            rw [show x75.toNat = a0.toNat + 1 by omega] at ex80
            refine ⟨rfl, Or.inr ⟨rfl, fun z => ?_⟩⟩
            obtain ⟨z0, b1, b2, b3, b4, b5, b6, b7, b8⟩ := z
            clear b6
            first
            | omega
            | (have c := b5 (by omega)
               omega)
            | (have c := b4 (by omega)
               omega)
        · skip
          have Zx66 := ex66
          have Nx73 : x73 = NBR s0 := by
            rw [ex73, Zx66]
            rfl
          have Nx85 : x85 = NDR s0 := by
            rw [ex85, Zx66]
            rfl
          rw [show x50.toNat = a0.toNat + 2 by omega] at ex55
          rw [show x58.toNat = a0.toNat + 4 by omega] at ex63
          rw [show x75.toNat = a0.toNat + 1 by omega] at ex80
          refine ⟨rfl, Or.inr ⟨rfl, fun z => ?_⟩⟩
          obtain ⟨z0, b1, b2, b3, b4, b5, b6, b7, b8⟩ := z
          clear b6
          first
          | omega
          | (have c := b5 (by omega)
             omega)
          | (have c := b4 (by omega)
             omega)
    · skip
      have Zx66 := ex66
      have Nx73 : x73 = NBR s0 := by
        rw [ex73, Zx66]
        rfl
      rw [show x50.toNat = a0.toNat + 2 by omega] at ex55
      rw [show x58.toNat = a0.toNat + 4 by omega] at ex63
      refine ⟨rfl, Or.inr ⟨rfl, fun z => ?_⟩⟩
      obtain ⟨z0, b1, b2, b3, b4, b5, b6, b7, b8⟩ := z
      clear b6
      first
      | omega
      | (have c := b5 (by omega)
         omega)
      | (have c := b4 (by omega)
         omega)
  · intro g v129_1 v129_2 v129_3 v129_4 rg o1 o2 o3 o4 o5 o6 o7 o8 hI
    obtain ⟨e1, e2, e3, e4, b0, b1, b2, b3, b4, b5⟩ := hI
    have hg := zFr_nl rg
    refine ⟨fun h9z => ?_, fun h9z => ?_⟩
    · skip
      exact ⟨e1, e2, e3, e4, b0, by omega, b1, b2, b3, b4, b5⟩
    · skip
      refine ⟨fun h10z => ?_, fun h10z => ?_⟩
      · skip
        exact ⟨e1, e2, e3, e4, b0, by omega, b1, b2, b3, b4, b5⟩
      · skip
        exact ⟨e1, e3, e4, b0, fun z => by exfalso; omega, b1, b2, b3, b4, b5⟩
  · intro g v140_1 v140_2 v140_3 v140_4 rg o1 o2 o3 o4 o5 o6 o7 o8 hI
    obtain ⟨e1, e2, e3, e4, b0, b9, b1, b2, b3, b4, b5⟩ := hI
    have hg := zFr_nl rg
    intro x3 ex3 x8 ex8 o11 o12
    refine ⟨fun h13z => ?_, fun h13z => ?_⟩
    · skip
      intro x10 ex10 o15 o16 x14 ex14 x16 ex16 x21 ex21 o20 o21 x23 ex23 o23 o24
      refine ⟨fun h25z => ?_, fun h25z => ?_⟩
      · skip
        rw [hg] at ex8
        rw [hg] at ex10
        have Zx10 := ex10
        rw [hg] at ex21
        rw [show x3.toNat = a0.toNat + 1 by omega] at ex8
        have Mx21 : x21 = MKR s0 (s0 387 a0.toNat).toNat := by
          rw [ex21, show x16.toNat = 12 * (s0 386 12).toNat + (s0 387 a0.toNat).toNat by omega]
          rfl
        refine ⟨hg, Or.inr ⟨rfl, fun z => ?_⟩⟩
        have c := z.2.2.2.2.2.2.1 b9
        have c2 := c.2
        rw [← Mx21, ← ex23] at c2
        omega
      · skip
        rw [hg] at ex8
        rw [hg] at ex10
        have Zx10 := ex10
        rw [hg] at ex21
        rw [show x3.toNat = a0.toNat + 1 by omega] at ex8
        have Mx21 : x21 = MKR s0 (s0 387 a0.toNat).toNat := by
          rw [ex21, show x16.toNat = 12 * (s0 386 12).toNat + (s0 387 a0.toNat).toNat by omega]
          rfl
        refine ⟨e1, e3, e4, b0, fun z => ⟨by omega, ?_⟩, b1, b2, b3, b4, b5⟩
        rw [← Mx21, ← ex23]
        omega
    · skip
      rw [hg] at ex8
      rw [show x3.toNat = a0.toNat + 1 by omega] at ex8
      refine ⟨hg, Or.inr ⟨rfl, fun z => ?_⟩⟩
      have c := z.2.2.2.2.2.2.1 b9
      omega
  · intro g v159_1 v159_3 v159_4 rg o1 o2 o3 o4 o5 o6 hI
    obtain ⟨e1, e3, e4, b0, b6, b1, b2, b3, b4, b5⟩ := hI
    have hg := zFr_nl rg
    refine ⟨fun h7z => ?_, fun h7z => ?_⟩
    · skip
      refine ⟨fun h8z => ?_, fun h8z => ?_⟩
      · skip
        exact ⟨hg, Or.inr ⟨rfl, fun z => z.2.2.2.2.2.2.2.1 ⟨by omega, by omega⟩⟩⟩
      · skip
        exact ⟨e1, by omega, b0, b6, b1, b2, b3, b4, b5⟩
    · skip
      exact ⟨e1, by omega, b0, b6, b1, b2, b3, b4, b5⟩
  · intro g v172_1 rg o1 o2 hI
    obtain ⟨e1, b7, b0, b6, b1, b2, b3, b4, b5⟩ := hI
    have hg := zFr_nl rg
    intro x29 ex29 x34 ex34 o5 o6 x36 ex36 x37 ex37 x42 ex42 o10 o11 x44 ex44
    refine ⟨fun h13z => ?_, fun h13z => ?_⟩
    · skip
      rw [hg] at ex34
      rw [hg] at ex42
      rw [show x29.toNat = a0.toNat + 5 by omega] at ex34
      rw [show x37.toNat = a0.toNat + 6 by omega] at ex42
      rw [ex36, pair_or (by omega) (by omega) (by omega) (by omega)] at ex44
      refine ⟨hg, Or.inr ⟨rfl, fun z => ?_⟩⟩
      have c := z.2.2.2.2.2.2.2.2
      omega
    · skip
      rw [hg] at ex34
      rw [hg] at ex42
      rw [show x29.toNat = a0.toNat + 5 by omega] at ex34
      rw [show x37.toNat = a0.toNat + 6 by omega] at ex42
      rw [ex36, pair_or (by omega) (by omega) (by omega) (by omega)] at ex44
      exact ⟨hg, Or.inl ⟨rfl, b0, b1, b2, b3, b4, b5, b6, b7, by omega⟩⟩
set_option maxHeartbeats 4000000 in
theorem w_2427 {s0 : zF} {a0 : Int} : p_2427 s0 a0 (fun v g => g = s0 ∧ (v = 1 ∧ IMAGE (s0 387) a0 (NBR s0) (NDR s0) (LASR s0) (MKR s0) ∨ v = 0 ∧ ¬ IMAGE (s0 387) a0 (NBR s0) (NDR s0) (LASR s0) (MKR s0))) := by
  refine ⟨fun g v27_1 v27_2 v27_3 => v27_1 = a0 ∧ a0 = 3 + 7 * NBR s0 + 2 * KNM (NBR s0) ∧ v27_2 = SEAL (s0 387) v27_3.toNat ∧ v27_3 ≤ a0 - 1 ∧ 0 ≤ NBR s0, fun g v93_3 => IMB (s0 387) a0 (NBR s0) ∧ IMP (s0 387) (NBR s0) (NDR s0) (LASR s0) (MKR s0) v93_3 ∧ v93_3 ≤ NBR s0, fun g v119_3 v119_4 => IMB (s0 387) a0 (NBR s0) ∧ IMP (s0 387) (NBR s0) (NDR s0) (LASR s0) (MKR s0) v119_3 ∧ v119_3 < NBR s0 ∧ (s0 387 (2 + 7 * v119_3.toNat) < NBR s0 ∧ BON (s0 387) (2 + 7 * v119_3.toNat) (NDR s0) (LASR s0) (MKR s0)) ∧ (∀ q : Nat, (q : Int) < v119_4 → s0 387 (2 + 7 * q) ≠ s0 387 (2 + 7 * v119_3.toNat)) ∧ v119_4 ≤ v119_3, fun g v167_3 => IMB (s0 387) a0 (NBR s0) ∧ IMP (s0 387) (NBR s0) (NDR s0) (LASR s0) (MKR s0) (NBR s0) ∧ IMK (s0 387) (NBR s0) v167_3 ∧ v167_3 ≤ KNM (NBR s0), ?_, ?_, ?_, ?_, ?_⟩
  · skip
    intro x125 ex125 o2 o3 x132 ex132 o5 o6 x133 ex133 x135 ex135
    refine ⟨fun v g' => g' = s0 ∧ v = KNM (NBR s0), ?_, ?_⟩
    · skip
      exact w_2428
    · skip
      intro x142 o9 o10 g145 rg145 qg145 x147 ex147 x149 ex149
      refine ⟨fun h15z => ?_, fun h15z => ?_⟩
      · skip
        obtain ⟨Eg145, Wg145⟩ : g145 = s0 ∧ x142 = KNM (NBR s0) := qg145
        have Zx125 := ex125
        have Nx132 : x132 = NBR s0 := by
          rw [ex132, Zx125]
          rfl
        refine ⟨Eg145, Or.inr ⟨rfl, fun z => ?_⟩⟩
        have c := z.1
        omega
      · skip
        obtain ⟨Eg145, Wg145⟩ : g145 = s0 ∧ x142 = KNM (NBR s0) := qg145
        have Zx125 := ex125
        have Nx132 : x132 = NBR s0 := by
          rw [ex132, Zx125]
          rfl
        exact ⟨rfl, by omega, rfl, by omega, by omega⟩
  · intro g v27_1 v27_2 v27_3 rg o1 o2 o3 o4 o5 o6 hI
    obtain ⟨e1, ea, e2, e3, eN⟩ := hI
    have hg := zFr_nl rg
    intro x1 ex1
    refine ⟨fun h8z => ?_, fun h8z => ?_⟩
    · skip
      intro x4 ex4 x9 ex9 o11 o12 x10 ex10 x12 o14 o15 ex12 x16 ex16
      rw [hg] at ex9
      refine ⟨e1, ea, ?_, by omega, eN⟩
      rw [show x16.toNat = v27_3.toNat + 1 by omega]
      show _ = (5 * SEAL (s0 387) v27_3.toNat + s0 387 v27_3.toNat) % 251
      rw [← e2, ← ex9]
      omega
    · skip
      intro x18 ex18 x23 ex23 o11 o12
      refine ⟨fun h13z => ?_, fun h13z => ?_⟩
      · skip
        rw [hg] at ex23
        rw [show x18.toNat = (a0 - 1).toNat by omega] at ex23
        rw [show v27_3.toNat = (a0 - 1).toNat by omega] at e2
        refine ⟨hg, Or.inr ⟨rfl, fun z => ?_⟩⟩
        have c := z.2.1
        omega
      · skip
        intro x28 ex28 o15 o16 x30 ex30 x34 ex34 o19 o20 x36 ex36
        refine ⟨fun h22z => ?_, fun h22z => ?_⟩
        · skip
          rw [hg] at ex23
          rw [hg] at ex28
          rw [hg] at ex34
          rw [show x18.toNat = (a0 - 1).toNat by omega] at ex23
          rw [show v27_3.toNat = (a0 - 1).toNat by omega] at e2
          rw [ex30, pair_or (by omega) (by omega) (by omega) (by omega)] at ex36
          refine ⟨hg, Or.inr ⟨rfl, fun z => ?_⟩⟩
          have c := z.2.2.1
          omega
        · skip
          rw [hg] at ex23
          rw [hg] at ex28
          rw [hg] at ex34
          rw [show x18.toNat = (a0 - 1).toNat by omega] at ex23
          rw [show v27_3.toNat = (a0 - 1).toNat by omega] at e2
          rw [ex30, pair_or (by omega) (by omega) (by omega) (by omega)] at ex36
          exact ⟨⟨ea, by omega, by omega⟩, IMP_0, by omega⟩
  · intro g v93_3 rg o1 o2 hI
    obtain ⟨kb, kp, kl⟩ := hI
    have hg := zFr_nl rg
    intro x38 ex38 o4 o5 x45 ex45 o7 o8
    refine ⟨fun h9z => ?_, fun h9z => ?_⟩
    · skip
      intro x47 ex47 x49 ex49
      refine ⟨fun v g' => g' = g ∧ (v = 1 ∧ (g 387 (x49 : Int).toNat < NBR g ∧ BON (g 387) (x49 : Int).toNat (NDR g) (LASR g) (MKR g)) ∨ v = 0 ∧ ¬(g 387 (x49 : Int).toNat < NBR g ∧ BON (g 387) (x49 : Int).toNat (NDR g) (LASR g) (MKR g))), ?_, ?_⟩
      · skip
        exact w_2429 (by omega)
      · skip
        intro x56 o12 o13 g59 rg59 qg59
        refine ⟨fun h16z => ?_, fun h16z => ?_⟩
        · skip
          obtain ⟨Fg59, Wg59⟩ : g59 = g ∧ _ := qg59
          have Eg59 : g59 = s0 := Fg59.trans hg
          rw [hg] at Wg59
          rw [hg] at ex38
          have Zx38 := ex38
          rw [hg] at ex45
          have Nx45 : x45 = NBR s0 := by
            rw [ex45, Zx38]
            rfl
          rw [show (x49 : Int).toNat = 2 + 7 * v93_3.toNat by omega] at Wg59
          rcases Wg59 with ⟨-, w⟩ | ⟨w, -⟩
          · exact ⟨kb, kp, by omega, w, fun q hq => by omega, by omega⟩
          · omega
        · skip
          obtain ⟨Fg59, Wg59⟩ : g59 = g ∧ _ := qg59
          have Eg59 : g59 = s0 := Fg59.trans hg
          rw [hg] at Wg59
          rw [hg] at ex38
          have Zx38 := ex38
          rw [hg] at ex45
          have Nx45 : x45 = NBR s0 := by
            rw [ex45, Zx38]
            rfl
          refine ⟨Eg59, Or.inr ⟨rfl, fun z => ?_⟩⟩
          rw [show (x49 : Int).toNat = 2 + 7 * v93_3.toNat by omega] at Wg59
          rcases Wg59 with ⟨w, -⟩ | ⟨-, w⟩
          · omega
          · obtain ⟨c1, c2, -⟩ := z.2.2.2.1 v93_3.toNat (by omega)
            exact w ⟨c1, c2⟩
    · skip
      rw [hg] at ex38
      have Zx38 := ex38
      rw [hg] at ex45
      have Nx45 : x45 = NBR s0 := by
        rw [ex45, Zx38]
        rfl
      rw [show v93_3 = NBR s0 by omega] at kp
      have hk : 0 ≤ KNM (NBR s0) := by
        unfold KNM
        split <;> omega
      exact ⟨kb, kp, IMK_0, hk⟩
  · intro g v119_3 v119_4 rg o1 o2 o3 o4 hI
    obtain ⟨kb, kp, kl, kn, kq, k4⟩ := hI
    have hg := zFr_nl rg
    refine ⟨fun h5z => ?_, fun h5z => ?_⟩
    · skip
      intro x63 ex63 x65 ex65 x70 ex70 o9 o10 x71 ex71 x73 ex73 x78 ex78 o14 o15
      refine ⟨fun h16z => ?_, fun h16z => ?_⟩
      · skip
        intro x80 ex80
        rw [hg] at ex70
        rw [hg] at ex78
        rw [show x65.toNat = 2 + 7 * v119_4.toNat by omega] at ex70
        rw [show x73.toNat = 2 + 7 * v119_3.toNat by omega] at ex78
        refine ⟨kb, kp, kl, kn, fun q hq => ?_, by omega⟩
        by_cases zq : q = v119_4.toNat
        · subst zq
          omega
        · exact kq q (by omega)
      · skip
        rw [hg] at ex70
        rw [hg] at ex78
        rw [show x65.toNat = 2 + 7 * v119_4.toNat by omega] at ex70
        rw [show x73.toNat = 2 + 7 * v119_3.toNat by omega] at ex78
        refine ⟨hg, Or.inr ⟨rfl, fun z => ?_⟩⟩
        obtain ⟨-, -, c3⟩ := z.2.2.2.1 v119_3.toNat (by omega)
        exact c3 v119_4.toNat (by omega) (by omega)
    · skip
      intro x82 ex82
      have e1 : x82 = v119_3 + 1 := by omega
      rw [e1]
      exact ⟨kb, IMP_s kp (by omega) kn.1 kn.2 (fun q hq => kq q (by omega)), by omega⟩
  · intro g v167_3 rg o1 o2 hI
    obtain ⟨kb, kp, kk, kl⟩ := hI
    have hg := zFr_nl rg
    refine ⟨fun v g' => g' = g ∧ v = KNM (NBR g), ?_, ?_⟩
    · skip
      exact w_2428
    · skip
      intro x89 o3 o4 g92 rg92 qg92
      refine ⟨fun h7z => ?_, fun h7z => ?_⟩
      · skip
        intro x95 ex95 o9 o10 x102 ex102 o12 o13 x103 ex103 x105 ex105 x107 ex107 x109 ex109 x114 ex114 o19 o20
        refine ⟨fun h21z => ?_, fun h21z => ?_⟩
        · skip
          obtain ⟨Fg92, Wg92⟩ : g92 = g ∧ x89 = KNM (NBR g) := qg92
          have Eg92 : g92 = s0 := Fg92.trans hg
          rw [hg] at Wg92
          rw [Eg92] at ex95
          have Zx95 := ex95
          rw [Eg92] at ex102
          have Nx102 : x102 = NBR s0 := by
            rw [ex102, Zx95]
            rfl
          rw [Eg92] at ex114
          rw [show x109.toNat = 2 + 7 * (NBR s0).toNat + 2 * v167_3.toNat by omega] at ex114
          refine ⟨Eg92, Or.inr ⟨rfl, fun z => ?_⟩⟩
          have c := z.2.2.2.2 v167_3.toNat (by omega)
          omega
        · skip
          intro x116 ex116 x121 ex121 o24 o25
          refine ⟨fun h26z => ?_, fun h26z => ?_⟩
          · skip
            obtain ⟨Fg92, Wg92⟩ : g92 = g ∧ x89 = KNM (NBR g) := qg92
            have Eg92 : g92 = s0 := Fg92.trans hg
            rw [hg] at Wg92
            rw [Eg92] at ex95
            have Zx95 := ex95
            rw [Eg92] at ex102
            have Nx102 : x102 = NBR s0 := by
              rw [ex102, Zx95]
              rfl
            rw [Eg92] at ex114
            rw [Eg92] at ex121
            rw [show x109.toNat = 2 + 7 * (NBR s0).toNat + 2 * v167_3.toNat by omega] at ex114
            rw [show x116.toNat = 2 + 7 * (NBR s0).toNat + 2 * v167_3.toNat + 1 by omega] at ex121
            refine ⟨Eg92, Or.inr ⟨rfl, fun z => ?_⟩⟩
            have c := z.2.2.2.2 v167_3.toNat (by omega)
            omega
          · skip
            intro x123 ex123
            obtain ⟨Fg92, Wg92⟩ : g92 = g ∧ x89 = KNM (NBR g) := qg92
            have Eg92 : g92 = s0 := Fg92.trans hg
            rw [hg] at Wg92
            rw [Eg92] at ex95
            have Zx95 := ex95
            rw [Eg92] at ex102
            have Nx102 : x102 = NBR s0 := by
              rw [ex102, Zx95]
              rfl
            rw [Eg92] at ex114
            rw [Eg92] at ex121
            rw [show x109.toNat = 2 + 7 * (NBR s0).toNat + 2 * v167_3.toNat by omega] at ex114
            rw [show x116.toNat = 2 + 7 * (NBR s0).toNat + 2 * v167_3.toNat + 1 by omega] at ex121
            have e1 : x123 = v167_3 + 1 := by omega
            rw [e1]
            exact ⟨kb, kp, IMK_s kk (by omega) (by omega) (by omega), by omega⟩
      · skip
        obtain ⟨Fg92, Wg92⟩ : g92 = g ∧ x89 = KNM (NBR g) := qg92
        have Eg92 : g92 = s0 := Fg92.trans hg
        rw [hg] at Wg92
        refine ⟨Eg92, Or.inl ⟨rfl, IMAGE_mk kb kp ?_⟩⟩
        rw [show KNM (NBR s0) = v167_3 by omega]
        exact kk
set_option maxHeartbeats 4000000 in
theorem w_2426 {s0 : zF} : p_2426 s0 (fun v _ => v = 1 ∧ IMAGE (s0 387) (s0 386 1) (NBR s0) (NDR s0) (LASR s0) (MKR s0) ∨ v = 0 ∧ ¬ IMAGE (s0 387) (s0 386 1) (NBR s0) (NDR s0) (LASR s0) (MKR s0)) := by
  refine ⟨fun g v56_2 => IMAGE (s0 387) (s0 386 1) (NBR s0) (NDR s0) (LASR s0) (MKR s0), fun g v209_2 => IMAGE (s0 387) (s0 386 1) (NBR s0) (NDR s0) (LASR s0) (MKR s0), ?_, ?_, ?_⟩
  · skip
    intro x187 ex187 o2 o3 g195 eg195
    refine ⟨fun v g' => g' = g195 ∧ (v = 1 ∧ IMAGE (g195 387) x187 (NBR g195) (NDR g195) (LASR g195) (MKR g195) ∨ v = 0 ∧ ¬ IMAGE (g195 387) x187 (NBR g195) (NDR g195) (LASR g195) (MKR g195)), ?_, ?_⟩
    · skip
      exact w_2427
    · skip
      intro x201 o5 o6 g204 rg204 qg204
      refine ⟨fun h9z => ?_, fun h9z => ?_⟩
      · skip
        intro x210 ex210 o11 o12 x212 ex212 x216 ex216 o15 o16 x218 ex218 g223 eg223
        have W : _ ∧ _ := qg204
        obtain ⟨-, W⟩ := W
        have u1 : g195 387 = s0 387 := by rw [eg195, zup_na (by decide)]
        have u2 : g195 386 12 = s0 386 12 := by rw [eg195, zup_ne (Or.inr (by decide))]
        have u3 : NBR g195 = NBR s0 := by
          unfold NBR
          rw [u2, eg195, zup_na (by decide)]
        have u4 : NDR g195 = NDR s0 := by
          unfold NDR
          rw [u2, eg195, zup_na (by decide)]
        have u5 : LASR g195 = LASR s0 := by
          funext d
          unfold LASR
          rw [u2, eg195, zup_na (by decide)]
        have u6 : MKR g195 = MKR s0 := by
          funext d
          unfold MKR
          rw [u2, eg195, zup_na (by decide)]
        rw [u1, u3, u4, u5, u6, ex187] at W
        rcases W with ⟨-, w⟩ | ⟨w, -⟩
        · exact w
        · exfalso
          omega
      · skip
        intro x227 o10 o11 g230 rg230
        have W : _ ∧ _ := qg204
        obtain ⟨-, W⟩ := W
        have u1 : g195 387 = s0 387 := by rw [eg195, zup_na (by decide)]
        have u2 : g195 386 12 = s0 386 12 := by rw [eg195, zup_ne (Or.inr (by decide))]
        have u3 : NBR g195 = NBR s0 := by
          unfold NBR
          rw [u2, eg195, zup_na (by decide)]
        have u4 : NDR g195 = NDR s0 := by
          unfold NDR
          rw [u2, eg195, zup_na (by decide)]
        have u5 : LASR g195 = LASR s0 := by
          funext d
          unfold LASR
          rw [u2, eg195, zup_na (by decide)]
        have u6 : MKR g195 = MKR s0 := by
          funext d
          unfold MKR
          rw [u2, eg195, zup_na (by decide)]
        rw [u1, u3, u4, u5, u6, ex187] at W
        refine Or.inr ⟨rfl, ?_⟩
        rcases W with ⟨w, -⟩ | ⟨-, w⟩
        · exfalso
          omega
        · exact w
  · intro g v56_2 rg o1 o2 hI
    intro x1 ex1 o4 o5 x8 ex8 o7 o8
    refine ⟨fun h9z => ?_, fun h9z => ?_⟩
    · skip
      intro x10 ex10 x12 ex12 x17 ex17 o13 o14 g21 rg21 o16 g28 eg28 x29 ex29 x34 ex34 o20 o21 g39 eg39 x40 ex40 x45 ex45 o25 o26 x46 ex46 o28 g53 eg53 x54 ex54 x59 ex59 o32 o33 g64 eg64 x65 ex65 x70 ex70 o37 o38 x71 ex71 o40 g78 eg78 x79 ex79 x84 ex84 o44 o45 x86 ex86 x87 ex87 x92 ex92 o49 o50 x94 ex94 g99 eg99 g104 eg104 g109 eg109 x110 ex110
      exact hI
    · skip
      exact hI
  · intro g v209_2 rg o1 o2 hI
    refine ⟨fun v g' => g' = g ∧ v = KNM (NBR g), ?_, ?_⟩
    · skip
      exact w_2428
    · skip
      intro x117 o3 o4 g120 rg120 qg120
      refine ⟨fun h7z => ?_, fun h7z => ?_⟩
      · skip
        intro x123 ex123 o9 o10 x130 ex130 o12 o13 x131 ex131 x133 ex133 x135 ex135 x137 ex137 x142 ex142 o19 o20 g147 eg147 x153 ex153 x155 ex155 x157 ex157 x159 ex159 x164 ex164 o27 o28 g169 eg169 x170 ex170
        exact hI
      · skip
        intro g176 eg176 g181 eg181 g186 eg186
        exact Or.inl ⟨rfl, hI⟩
