/-! partial proofs of the reference (wip/safe/vcp.py) -/
set_option maxHeartbeats 4000000 in
theorem w_2316 {T : Nat → Int} {L e i : Nat} {t : zK} {P : Nat → Nat} {d : zDS} {s0 : zF} (tk : Toks T L t.1 t.2.1 t.2.2 P e) (hT : s0 387 = T) (hL : s0 386 2 = (L : Int)) (hi : i ≤ e) (A : ATT t P i s0) (hk : tokI t i = 7) (D : DIR t e s0 d) : p_2316 s0 (fun g => (∃ r, RSq t P e r g ∧ zbd r (nSc t) = zbd (stF t d i) (nSc t)) ∧ (g 386 8 = 0 → DIR t e g (stD t d i)) ∧ HFS s0 g) := by
  have k2 : t.1 i = 2 := tokI_2 (by omega)
  have a8 := A.2.1
  have aa5 := A.2.2.2.1
  unfold p_2316
  intro x1 ex1 o2 o3 x8 ex8 o5 o6
  refine ⟨fun h7z => ?_, fun h7z => ?_⟩
  · skip
    intro x10 ex10 o9 o10
    refine ⟨fun h11z => ?_, fun h11z => ?_⟩
    · skip
      exfalso
      omega
    · skip
      refine ⟨fun g' => AH (s0 387) (s0 386 2).toNat (s0 386 5).toNat g', ?_, ?_⟩
      · skip
        exact w_2310 (by omega) (by omega) (by omega)
      · skip
        intro g20 rg20 qg20 x22 ex22 o15 o16
        refine ⟨fun h17z => ?_, fun h17z => ?_⟩
        · skip
          obtain ⟨w, hw, h35, n1, n2, n3⟩ := D
          have ew : x1.toNat = w := by omega
          have e8 : x8 = ((dB d).length : Int) := by
            rw [ex8, ew]
            exact n1.1
          have T0 : s0 387 = T := hT
          have L0 : s0 386 2 = (L : Int) := hL
          have T1 : g20 387 = T := (rg20.a (by decide)).trans T0
          have L1 : g20 386 2 = (L : Int) := (rg20.s (by decide)).trans L0
          have ha : AH T L (s0 386 5).toNat g20 := by
            have q : AH (s0 387) (s0 386 2).toNat (s0 386 5).toNat g20 := qg20
            rw [hT, hL] at q
            exact q
          have R1 : RSq t P e (.inl (i + 1)) g20 := rs_next (F := fun k => .inl (k + 1)) tk A hi (by omega) (by omega) rfl ha
          have Z0 := R1
          have Z1 := rs_fault Z0 (F := nNa t (tkL t d)) (by omega) (fun i h => nNa_bad h)
          have Z2 := rs_fault Z1 (F := nOw t 1) (by omega) (fun i h => nOw_bad (by decide) h)
          have Z3 := rs_fault Z2 (F := nNu t 1 99) (by omega) (fun i h => nNu_bad h)
          have Z4 := rs_fault Z3 (F := nOw t 2) (by omega) (fun i h => nOw_bad (by decide) h)
          have Z5 := rs_fault Z4 (F := nNu t 1 999) (by omega) (fun i h => nNu_bad h)
          have Z6 := rs_fault Z5 (F := nOw t 8) (by omega) (fun i h => nOw_bad (by decide) h)
          have Z7 := rs_fault Z6 (F := nNu t 0 100) (by omega) (fun i h => nNu_bad h)
          have Z8 := rs_fault Z7 (F := nOw t 9) (by omega) (fun i h => nOw_bad (by decide) h)
          have Z9 := rs_fault Z8 (F := nNu t 0 99) (by omega) (fun i h => nNu_bad h)
          have Z10 := rs_fault2 Z9 (F := mkG t 3 0) (by omega) (fun i h => Or.inr (mkG_bad h))
          refine ⟨⟨_, Z10, ?_⟩, fun z => absurd z (by omega), ⟨fun k hk => by rw [rg20.a (a := 388) (by decide)], fun k hk => by rw [rg20.a (a := 389) (by decide)], fun k hk => by rw [rg20.a (a := 396) (by decide)], fun k hk => by rw [rg20.a (a := 397) (by decide)]⟩⟩
          rw [stF_7 hk (by omega)]
          exact boy_eq
        · skip
          intro x28 ex28 x34 ex34
          refine ⟨fun v g' => RSq t P e (zbd (.inl (i + 1)) (nNa t (tkL t d))) g' ∧ ∀ i' j, (.inl (i + 1) : zP) = .inl i' → nNa t (tkL t d) i' = .inl j → v = c8 (t.2.1 i') ∧ c5 (c8 (t.2.1 i')) = t.2.1 i' ∧ t.1 i' = 2 ∧ i' ≤ e, ?_, ?_⟩
          · skip
            have T0 : s0 387 = T := hT
            have L0 : s0 386 2 = (L : Int) := hL
            have T1 : g20 387 = T := (rg20.a (by decide)).trans T0
            have L1 : g20 386 2 = (L : Int) := (rg20.s (by decide)).trans L0
            have ha : AH T L (s0 386 5).toNat g20 := by
              have q : AH (s0 387) (s0 386 2).toNat (s0 386 5).toNat g20 := qg20
              rw [hT, hL] at q
              exact q
            have R1 : RSq t P e (.inl (i + 1)) g20 := rs_next (F := fun k => .inl (k + 1)) tk A hi (by omega) (by omega) rfl ha
            exact w_2318 tk T1 L1 R1 (DIR_fr D (by rw [rg20.s (by decide)]) (by rw [rg20.a (by decide)]) (by rw [rg20.a (by decide)]) (by rw [rg20.a (by decide)]) (by rw [rg20.a (by decide)]) (by rw [rg20.a (by decide)]))
          · skip
            intro y41 g42 rg42 qg42 g48 eg48
            refine ⟨fun g' => RSq t P e (zbd (zbd (.inl (i + 1)) (nNa t (tkL t d))) (nOw t 1)) g', ?_, ?_⟩
            · skip
              have T0 : s0 387 = T := hT
              have L0 : s0 386 2 = (L : Int) := hL
              have T1 : g20 387 = T := (rg20.a (by decide)).trans T0
              have L1 : g20 386 2 = (L : Int) := (rg20.s (by decide)).trans L0
              have ha : AH T L (s0 386 5).toNat g20 := by
                have q : AH (s0 387) (s0 386 2).toNat (s0 386 5).toNat g20 := qg20
                rw [hT, hL] at q
                exact q
              have R1 : RSq t P e (.inl (i + 1)) g20 := rs_next (F := fun k => .inl (k + 1)) tk A hi (by omega) (by omega) rfl ha
              have T2 : g42 387 = T := (rg42.a (by decide)).trans T1
              have L2 : g42 386 2 = (L : Int) := (rg42.s (by decide)).trans L1
              have RV2 : RSq t P e (zbd (.inl (i + 1)) (nNa t (tkL t d))) g42 ∧ _ := qg42
              have R2 := RV2.1
              have T3 : g48 387 = T := by rw [eg48, zup_na (by decide), T2]
              have L3 : g48 386 2 = (L : Int) := by rw [eg48, zup_ne (Or.inl (by decide)), L2]
              have R3 : RSq t P e (zbd (.inl (i + 1)) (nNa t (tkL t d))) g48 := by
                rw [eg48]
                exact RSq_st R2 (by decide)
              exact w_2321 (w := 1) tk T3 L3 R3 (OW_w (by decide) rfl)
            · skip
              intro g54 rg54 qg54
              refine ⟨fun v g' => RSq t P e (zbd (zbd (zbd (.inl (i + 1)) (nNa t (tkL t d))) (nOw t 1)) (nNu t 1 99)) g' ∧ ∀ i' j, (zbd (zbd (.inl (i + 1)) (nNa t (tkL t d))) (nOw t 1) : zP) = .inl i' → nNu t 1 99 i' = .inl j → v = t.2.1 i', ?_, ?_⟩
              · skip
                have T0 : s0 387 = T := hT
                have L0 : s0 386 2 = (L : Int) := hL
                have T1 : g20 387 = T := (rg20.a (by decide)).trans T0
                have L1 : g20 386 2 = (L : Int) := (rg20.s (by decide)).trans L0
                have ha : AH T L (s0 386 5).toNat g20 := by
                  have q : AH (s0 387) (s0 386 2).toNat (s0 386 5).toNat g20 := qg20
                  rw [hT, hL] at q
                  exact q
                have R1 : RSq t P e (.inl (i + 1)) g20 := rs_next (F := fun k => .inl (k + 1)) tk A hi (by omega) (by omega) rfl ha
                have T2 : g42 387 = T := (rg42.a (by decide)).trans T1
                have L2 : g42 386 2 = (L : Int) := (rg42.s (by decide)).trans L1
                have RV2 : RSq t P e (zbd (.inl (i + 1)) (nNa t (tkL t d))) g42 ∧ _ := qg42
                have R2 := RV2.1
                have T3 : g48 387 = T := by rw [eg48, zup_na (by decide), T2]
                have L3 : g48 386 2 = (L : Int) := by rw [eg48, zup_ne (Or.inl (by decide)), L2]
                have R3 : RSq t P e (zbd (.inl (i + 1)) (nNa t (tkL t d))) g48 := by
                  rw [eg48]
                  exact RSq_st R2 (by decide)
                have T4 : g54 387 = T := (rg54.a (by decide)).trans T3
                have L4 : g54 386 2 = (L : Int) := (rg54.s (by decide)).trans L3
                have R4 : RSq t P e (zbd (zbd (.inl (i + 1)) (nNa t (tkL t d))) (nOw t 1)) g54 := qg54
                exact w_2322 tk T4 L4 R4
              · skip
                intro x61 g64 rg64 qg64 g70 eg70
                refine ⟨fun g' => RSq t P e (zbd (zbd (zbd (zbd (.inl (i + 1)) (nNa t (tkL t d))) (nOw t 1)) (nNu t 1 99)) (nOw t 2)) g', ?_, ?_⟩
                · skip
                  have T0 : s0 387 = T := hT
                  have L0 : s0 386 2 = (L : Int) := hL
                  have T1 : g20 387 = T := (rg20.a (by decide)).trans T0
                  have L1 : g20 386 2 = (L : Int) := (rg20.s (by decide)).trans L0
                  have ha : AH T L (s0 386 5).toNat g20 := by
                    have q : AH (s0 387) (s0 386 2).toNat (s0 386 5).toNat g20 := qg20
                    rw [hT, hL] at q
                    exact q
                  have R1 : RSq t P e (.inl (i + 1)) g20 := rs_next (F := fun k => .inl (k + 1)) tk A hi (by omega) (by omega) rfl ha
                  have T2 : g42 387 = T := (rg42.a (by decide)).trans T1
                  have L2 : g42 386 2 = (L : Int) := (rg42.s (by decide)).trans L1
                  have RV2 : RSq t P e (zbd (.inl (i + 1)) (nNa t (tkL t d))) g42 ∧ _ := qg42
                  have R2 := RV2.1
                  have T3 : g48 387 = T := by rw [eg48, zup_na (by decide), T2]
                  have L3 : g48 386 2 = (L : Int) := by rw [eg48, zup_ne (Or.inl (by decide)), L2]
                  have R3 : RSq t P e (zbd (.inl (i + 1)) (nNa t (tkL t d))) g48 := by
                    rw [eg48]
                    exact RSq_st R2 (by decide)
                  have T4 : g54 387 = T := (rg54.a (by decide)).trans T3
                  have L4 : g54 386 2 = (L : Int) := (rg54.s (by decide)).trans L3
                  have R4 : RSq t P e (zbd (zbd (.inl (i + 1)) (nNa t (tkL t d))) (nOw t 1)) g54 := qg54
                  have T5 : g64 387 = T := (rg64.a (by decide)).trans T4
                  have L5 : g64 386 2 = (L : Int) := (rg64.s (by decide)).trans L4
                  have RV5 : RSq t P e (zbd (zbd (zbd (.inl (i + 1)) (nNa t (tkL t d))) (nOw t 1)) (nNu t 1 99)) g64 ∧ _ := qg64
                  have R5 := RV5.1
                  have T6 : g70 387 = T := by rw [eg70, zup_na (by decide), T5]
                  have L6 : g70 386 2 = (L : Int) := by rw [eg70, zup_ne (Or.inl (by decide)), L5]
                  have R6 : RSq t P e (zbd (zbd (zbd (.inl (i + 1)) (nNa t (tkL t d))) (nOw t 1)) (nNu t 1 99)) g70 := by
                    rw [eg70]
                    exact RSq_st R5 (by decide)
                  exact w_2321 (w := 2) tk T6 L6 R6 (OW_w (by decide) rfl)
                · skip
                  intro g76 rg76 qg76
                  refine ⟨fun v g' => RSq t P e (zbd (zbd (zbd (zbd (zbd (.inl (i + 1)) (nNa t (tkL t d))) (nOw t 1)) (nNu t 1 99)) (nOw t 2)) (nNu t 1 999)) g' ∧ ∀ i' j, (zbd (zbd (zbd (zbd (.inl (i + 1)) (nNa t (tkL t d))) (nOw t 1)) (nNu t 1 99)) (nOw t 2) : zP) = .inl i' → nNu t 1 999 i' = .inl j → v = t.2.1 i', ?_, ?_⟩
                  · skip
                    have T0 : s0 387 = T := hT
                    have L0 : s0 386 2 = (L : Int) := hL
                    have T1 : g20 387 = T := (rg20.a (by decide)).trans T0
                    have L1 : g20 386 2 = (L : Int) := (rg20.s (by decide)).trans L0
                    have ha : AH T L (s0 386 5).toNat g20 := by
                      have q : AH (s0 387) (s0 386 2).toNat (s0 386 5).toNat g20 := qg20
                      rw [hT, hL] at q
                      exact q
                    have R1 : RSq t P e (.inl (i + 1)) g20 := rs_next (F := fun k => .inl (k + 1)) tk A hi (by omega) (by omega) rfl ha
                    have T2 : g42 387 = T := (rg42.a (by decide)).trans T1
                    have L2 : g42 386 2 = (L : Int) := (rg42.s (by decide)).trans L1
                    have RV2 : RSq t P e (zbd (.inl (i + 1)) (nNa t (tkL t d))) g42 ∧ _ := qg42
                    have R2 := RV2.1
                    have T3 : g48 387 = T := by rw [eg48, zup_na (by decide), T2]
                    have L3 : g48 386 2 = (L : Int) := by rw [eg48, zup_ne (Or.inl (by decide)), L2]
                    have R3 : RSq t P e (zbd (.inl (i + 1)) (nNa t (tkL t d))) g48 := by
                      rw [eg48]
                      exact RSq_st R2 (by decide)
                    have T4 : g54 387 = T := (rg54.a (by decide)).trans T3
                    have L4 : g54 386 2 = (L : Int) := (rg54.s (by decide)).trans L3
                    have R4 : RSq t P e (zbd (zbd (.inl (i + 1)) (nNa t (tkL t d))) (nOw t 1)) g54 := qg54
                    have T5 : g64 387 = T := (rg64.a (by decide)).trans T4
                    have L5 : g64 386 2 = (L : Int) := (rg64.s (by decide)).trans L4
                    have RV5 : RSq t P e (zbd (zbd (zbd (.inl (i + 1)) (nNa t (tkL t d))) (nOw t 1)) (nNu t 1 99)) g64 ∧ _ := qg64
                    have R5 := RV5.1
                    have T6 : g70 387 = T := by rw [eg70, zup_na (by decide), T5]
                    have L6 : g70 386 2 = (L : Int) := by rw [eg70, zup_ne (Or.inl (by decide)), L5]
                    have R6 : RSq t P e (zbd (zbd (zbd (.inl (i + 1)) (nNa t (tkL t d))) (nOw t 1)) (nNu t 1 99)) g70 := by
                      rw [eg70]
                      exact RSq_st R5 (by decide)
                    have T7 : g76 387 = T := (rg76.a (by decide)).trans T6
                    have L7 : g76 386 2 = (L : Int) := (rg76.s (by decide)).trans L6
                    have R7 : RSq t P e (zbd (zbd (zbd (zbd (.inl (i + 1)) (nNa t (tkL t d))) (nOw t 1)) (nNu t 1 99)) (nOw t 2)) g76 := qg76
                    exact w_2322 tk T7 L7 R7
                  · skip
                    intro x83 g86 rg86 qg86 g92 eg92
                    refine ⟨fun g' => RSq t P e (zbd (zbd (zbd (zbd (zbd (zbd (.inl (i + 1)) (nNa t (tkL t d))) (nOw t 1)) (nNu t 1 99)) (nOw t 2)) (nNu t 1 999)) (nOw t 8)) g', ?_, ?_⟩
                    · skip
                      have T0 : s0 387 = T := hT
                      have L0 : s0 386 2 = (L : Int) := hL
                      have T1 : g20 387 = T := (rg20.a (by decide)).trans T0
                      have L1 : g20 386 2 = (L : Int) := (rg20.s (by decide)).trans L0
                      have ha : AH T L (s0 386 5).toNat g20 := by
                        have q : AH (s0 387) (s0 386 2).toNat (s0 386 5).toNat g20 := qg20
                        rw [hT, hL] at q
                        exact q
                      have R1 : RSq t P e (.inl (i + 1)) g20 := rs_next (F := fun k => .inl (k + 1)) tk A hi (by omega) (by omega) rfl ha
                      have T2 : g42 387 = T := (rg42.a (by decide)).trans T1
                      have L2 : g42 386 2 = (L : Int) := (rg42.s (by decide)).trans L1
                      have RV2 : RSq t P e (zbd (.inl (i + 1)) (nNa t (tkL t d))) g42 ∧ _ := qg42
                      have R2 := RV2.1
                      have T3 : g48 387 = T := by rw [eg48, zup_na (by decide), T2]
                      have L3 : g48 386 2 = (L : Int) := by rw [eg48, zup_ne (Or.inl (by decide)), L2]
                      have R3 : RSq t P e (zbd (.inl (i + 1)) (nNa t (tkL t d))) g48 := by
                        rw [eg48]
                        exact RSq_st R2 (by decide)
                      have T4 : g54 387 = T := (rg54.a (by decide)).trans T3
                      have L4 : g54 386 2 = (L : Int) := (rg54.s (by decide)).trans L3
                      have R4 : RSq t P e (zbd (zbd (.inl (i + 1)) (nNa t (tkL t d))) (nOw t 1)) g54 := qg54
                      have T5 : g64 387 = T := (rg64.a (by decide)).trans T4
                      have L5 : g64 386 2 = (L : Int) := (rg64.s (by decide)).trans L4
                      have RV5 : RSq t P e (zbd (zbd (zbd (.inl (i + 1)) (nNa t (tkL t d))) (nOw t 1)) (nNu t 1 99)) g64 ∧ _ := qg64
                      have R5 := RV5.1
                      have T6 : g70 387 = T := by rw [eg70, zup_na (by decide), T5]
                      have L6 : g70 386 2 = (L : Int) := by rw [eg70, zup_ne (Or.inl (by decide)), L5]
                      have R6 : RSq t P e (zbd (zbd (zbd (.inl (i + 1)) (nNa t (tkL t d))) (nOw t 1)) (nNu t 1 99)) g70 := by
                        rw [eg70]
                        exact RSq_st R5 (by decide)
                      have T7 : g76 387 = T := (rg76.a (by decide)).trans T6
                      have L7 : g76 386 2 = (L : Int) := (rg76.s (by decide)).trans L6
                      have R7 : RSq t P e (zbd (zbd (zbd (zbd (.inl (i + 1)) (nNa t (tkL t d))) (nOw t 1)) (nNu t 1 99)) (nOw t 2)) g76 := qg76
                      have T8 : g86 387 = T := (rg86.a (by decide)).trans T7
                      have L8 : g86 386 2 = (L : Int) := (rg86.s (by decide)).trans L7
                      have RV8 : RSq t P e (zbd (zbd (zbd (zbd (zbd (.inl (i + 1)) (nNa t (tkL t d))) (nOw t 1)) (nNu t 1 99)) (nOw t 2)) (nNu t 1 999)) g86 ∧ _ := qg86
                      have R8 := RV8.1
                      have T9 : g92 387 = T := by rw [eg92, zup_na (by decide), T8]
                      have L9 : g92 386 2 = (L : Int) := by rw [eg92, zup_ne (Or.inl (by decide)), L8]
                      have R9 : RSq t P e (zbd (zbd (zbd (zbd (zbd (.inl (i + 1)) (nNa t (tkL t d))) (nOw t 1)) (nNu t 1 99)) (nOw t 2)) (nNu t 1 999)) g92 := by
                        rw [eg92]
                        exact RSq_st R8 (by decide)
                      exact w_2321 (w := 8) tk T9 L9 R9 (OW_w (by decide) rfl)
                    · skip
                      intro g98 rg98 qg98
                      refine ⟨fun v g' => RSq t P e (zbd (zbd (zbd (zbd (zbd (zbd (zbd (.inl (i + 1)) (nNa t (tkL t d))) (nOw t 1)) (nNu t 1 99)) (nOw t 2)) (nNu t 1 999)) (nOw t 8)) (nNu t 0 100)) g' ∧ ∀ i' j, (zbd (zbd (zbd (zbd (zbd (zbd (.inl (i + 1)) (nNa t (tkL t d))) (nOw t 1)) (nNu t 1 99)) (nOw t 2)) (nNu t 1 999)) (nOw t 8) : zP) = .inl i' → nNu t 0 100 i' = .inl j → v = t.2.1 i', ?_, ?_⟩
                      · skip
                        have T0 : s0 387 = T := hT
                        have L0 : s0 386 2 = (L : Int) := hL
                        have T1 : g20 387 = T := (rg20.a (by decide)).trans T0
                        have L1 : g20 386 2 = (L : Int) := (rg20.s (by decide)).trans L0
                        have ha : AH T L (s0 386 5).toNat g20 := by
                          have q : AH (s0 387) (s0 386 2).toNat (s0 386 5).toNat g20 := qg20
                          rw [hT, hL] at q
                          exact q
                        have R1 : RSq t P e (.inl (i + 1)) g20 := rs_next (F := fun k => .inl (k + 1)) tk A hi (by omega) (by omega) rfl ha
                        have T2 : g42 387 = T := (rg42.a (by decide)).trans T1
                        have L2 : g42 386 2 = (L : Int) := (rg42.s (by decide)).trans L1
                        have RV2 : RSq t P e (zbd (.inl (i + 1)) (nNa t (tkL t d))) g42 ∧ _ := qg42
                        have R2 := RV2.1
                        have T3 : g48 387 = T := by rw [eg48, zup_na (by decide), T2]
                        have L3 : g48 386 2 = (L : Int) := by rw [eg48, zup_ne (Or.inl (by decide)), L2]
                        have R3 : RSq t P e (zbd (.inl (i + 1)) (nNa t (tkL t d))) g48 := by
                          rw [eg48]
                          exact RSq_st R2 (by decide)
                        have T4 : g54 387 = T := (rg54.a (by decide)).trans T3
                        have L4 : g54 386 2 = (L : Int) := (rg54.s (by decide)).trans L3
                        have R4 : RSq t P e (zbd (zbd (.inl (i + 1)) (nNa t (tkL t d))) (nOw t 1)) g54 := qg54
                        have T5 : g64 387 = T := (rg64.a (by decide)).trans T4
                        have L5 : g64 386 2 = (L : Int) := (rg64.s (by decide)).trans L4
                        have RV5 : RSq t P e (zbd (zbd (zbd (.inl (i + 1)) (nNa t (tkL t d))) (nOw t 1)) (nNu t 1 99)) g64 ∧ _ := qg64
                        have R5 := RV5.1
                        have T6 : g70 387 = T := by rw [eg70, zup_na (by decide), T5]
                        have L6 : g70 386 2 = (L : Int) := by rw [eg70, zup_ne (Or.inl (by decide)), L5]
                        have R6 : RSq t P e (zbd (zbd (zbd (.inl (i + 1)) (nNa t (tkL t d))) (nOw t 1)) (nNu t 1 99)) g70 := by
                          rw [eg70]
                          exact RSq_st R5 (by decide)
                        have T7 : g76 387 = T := (rg76.a (by decide)).trans T6
                        have L7 : g76 386 2 = (L : Int) := (rg76.s (by decide)).trans L6
                        have R7 : RSq t P e (zbd (zbd (zbd (zbd (.inl (i + 1)) (nNa t (tkL t d))) (nOw t 1)) (nNu t 1 99)) (nOw t 2)) g76 := qg76
                        have T8 : g86 387 = T := (rg86.a (by decide)).trans T7
                        have L8 : g86 386 2 = (L : Int) := (rg86.s (by decide)).trans L7
                        have RV8 : RSq t P e (zbd (zbd (zbd (zbd (zbd (.inl (i + 1)) (nNa t (tkL t d))) (nOw t 1)) (nNu t 1 99)) (nOw t 2)) (nNu t 1 999)) g86 ∧ _ := qg86
                        have R8 := RV8.1
                        have T9 : g92 387 = T := by rw [eg92, zup_na (by decide), T8]
                        have L9 : g92 386 2 = (L : Int) := by rw [eg92, zup_ne (Or.inl (by decide)), L8]
                        have R9 : RSq t P e (zbd (zbd (zbd (zbd (zbd (.inl (i + 1)) (nNa t (tkL t d))) (nOw t 1)) (nNu t 1 99)) (nOw t 2)) (nNu t 1 999)) g92 := by
                          rw [eg92]
                          exact RSq_st R8 (by decide)
                        have T10 : g98 387 = T := (rg98.a (by decide)).trans T9
                        have L10 : g98 386 2 = (L : Int) := (rg98.s (by decide)).trans L9
                        have R10 : RSq t P e (zbd (zbd (zbd (zbd (zbd (zbd (.inl (i + 1)) (nNa t (tkL t d))) (nOw t 1)) (nNu t 1 99)) (nOw t 2)) (nNu t 1 999)) (nOw t 8)) g98 := qg98
                        exact w_2322 tk T10 L10 R10
                      · skip
                        intro x105 g108 rg108 qg108 g114 eg114
                        refine ⟨fun g' => RSq t P e (zbd (zbd (zbd (zbd (zbd (zbd (zbd (zbd (.inl (i + 1)) (nNa t (tkL t d))) (nOw t 1)) (nNu t 1 99)) (nOw t 2)) (nNu t 1 999)) (nOw t 8)) (nNu t 0 100)) (nOw t 9)) g', ?_, ?_⟩
                        · skip
                          have T0 : s0 387 = T := hT
                          have L0 : s0 386 2 = (L : Int) := hL
                          have T1 : g20 387 = T := (rg20.a (by decide)).trans T0
                          have L1 : g20 386 2 = (L : Int) := (rg20.s (by decide)).trans L0
                          have ha : AH T L (s0 386 5).toNat g20 := by
                            have q : AH (s0 387) (s0 386 2).toNat (s0 386 5).toNat g20 := qg20
                            rw [hT, hL] at q
                            exact q
                          have R1 : RSq t P e (.inl (i + 1)) g20 := rs_next (F := fun k => .inl (k + 1)) tk A hi (by omega) (by omega) rfl ha
                          have T2 : g42 387 = T := (rg42.a (by decide)).trans T1
                          have L2 : g42 386 2 = (L : Int) := (rg42.s (by decide)).trans L1
                          have RV2 : RSq t P e (zbd (.inl (i + 1)) (nNa t (tkL t d))) g42 ∧ _ := qg42
                          have R2 := RV2.1
                          have T3 : g48 387 = T := by rw [eg48, zup_na (by decide), T2]
                          have L3 : g48 386 2 = (L : Int) := by rw [eg48, zup_ne (Or.inl (by decide)), L2]
                          have R3 : RSq t P e (zbd (.inl (i + 1)) (nNa t (tkL t d))) g48 := by
                            rw [eg48]
                            exact RSq_st R2 (by decide)
                          have T4 : g54 387 = T := (rg54.a (by decide)).trans T3
                          have L4 : g54 386 2 = (L : Int) := (rg54.s (by decide)).trans L3
                          have R4 : RSq t P e (zbd (zbd (.inl (i + 1)) (nNa t (tkL t d))) (nOw t 1)) g54 := qg54
                          have T5 : g64 387 = T := (rg64.a (by decide)).trans T4
                          have L5 : g64 386 2 = (L : Int) := (rg64.s (by decide)).trans L4
                          have RV5 : RSq t P e (zbd (zbd (zbd (.inl (i + 1)) (nNa t (tkL t d))) (nOw t 1)) (nNu t 1 99)) g64 ∧ _ := qg64
                          have R5 := RV5.1
                          have T6 : g70 387 = T := by rw [eg70, zup_na (by decide), T5]
                          have L6 : g70 386 2 = (L : Int) := by rw [eg70, zup_ne (Or.inl (by decide)), L5]
                          have R6 : RSq t P e (zbd (zbd (zbd (.inl (i + 1)) (nNa t (tkL t d))) (nOw t 1)) (nNu t 1 99)) g70 := by
                            rw [eg70]
                            exact RSq_st R5 (by decide)
                          have T7 : g76 387 = T := (rg76.a (by decide)).trans T6
                          have L7 : g76 386 2 = (L : Int) := (rg76.s (by decide)).trans L6
                          have R7 : RSq t P e (zbd (zbd (zbd (zbd (.inl (i + 1)) (nNa t (tkL t d))) (nOw t 1)) (nNu t 1 99)) (nOw t 2)) g76 := qg76
                          have T8 : g86 387 = T := (rg86.a (by decide)).trans T7
                          have L8 : g86 386 2 = (L : Int) := (rg86.s (by decide)).trans L7
                          have RV8 : RSq t P e (zbd (zbd (zbd (zbd (zbd (.inl (i + 1)) (nNa t (tkL t d))) (nOw t 1)) (nNu t 1 99)) (nOw t 2)) (nNu t 1 999)) g86 ∧ _ := qg86
                          have R8 := RV8.1
                          have T9 : g92 387 = T := by rw [eg92, zup_na (by decide), T8]
                          have L9 : g92 386 2 = (L : Int) := by rw [eg92, zup_ne (Or.inl (by decide)), L8]
                          have R9 : RSq t P e (zbd (zbd (zbd (zbd (zbd (.inl (i + 1)) (nNa t (tkL t d))) (nOw t 1)) (nNu t 1 99)) (nOw t 2)) (nNu t 1 999)) g92 := by
                            rw [eg92]
                            exact RSq_st R8 (by decide)
                          have T10 : g98 387 = T := (rg98.a (by decide)).trans T9
                          have L10 : g98 386 2 = (L : Int) := (rg98.s (by decide)).trans L9
                          have R10 : RSq t P e (zbd (zbd (zbd (zbd (zbd (zbd (.inl (i + 1)) (nNa t (tkL t d))) (nOw t 1)) (nNu t 1 99)) (nOw t 2)) (nNu t 1 999)) (nOw t 8)) g98 := qg98
                          have T11 : g108 387 = T := (rg108.a (by decide)).trans T10
                          have L11 : g108 386 2 = (L : Int) := (rg108.s (by decide)).trans L10
                          have RV11 : RSq t P e (zbd (zbd (zbd (zbd (zbd (zbd (zbd (.inl (i + 1)) (nNa t (tkL t d))) (nOw t 1)) (nNu t 1 99)) (nOw t 2)) (nNu t 1 999)) (nOw t 8)) (nNu t 0 100)) g108 ∧ _ := qg108
                          have R11 := RV11.1
                          have T12 : g114 387 = T := by rw [eg114, zup_na (by decide), T11]
                          have L12 : g114 386 2 = (L : Int) := by rw [eg114, zup_ne (Or.inl (by decide)), L11]
                          have R12 : RSq t P e (zbd (zbd (zbd (zbd (zbd (zbd (zbd (.inl (i + 1)) (nNa t (tkL t d))) (nOw t 1)) (nNu t 1 99)) (nOw t 2)) (nNu t 1 999)) (nOw t 8)) (nNu t 0 100)) g114 := by
                            rw [eg114]
                            exact RSq_st R11 (by decide)
                          exact w_2321 (w := 9) tk T12 L12 R12 (OW_w (by decide) rfl)
                        · skip
                          intro g120 rg120 qg120
                          refine ⟨fun v g' => RSq t P e (zbd (zbd (zbd (zbd (zbd (zbd (zbd (zbd (zbd (.inl (i + 1)) (nNa t (tkL t d))) (nOw t 1)) (nNu t 1 99)) (nOw t 2)) (nNu t 1 999)) (nOw t 8)) (nNu t 0 100)) (nOw t 9)) (nNu t 0 99)) g' ∧ ∀ i' j, (zbd (zbd (zbd (zbd (zbd (zbd (zbd (zbd (.inl (i + 1)) (nNa t (tkL t d))) (nOw t 1)) (nNu t 1 99)) (nOw t 2)) (nNu t 1 999)) (nOw t 8)) (nNu t 0 100)) (nOw t 9) : zP) = .inl i' → nNu t 0 99 i' = .inl j → v = t.2.1 i', ?_, ?_⟩
                          · skip
                            have T0 : s0 387 = T := hT
                            have L0 : s0 386 2 = (L : Int) := hL
                            have T1 : g20 387 = T := (rg20.a (by decide)).trans T0
                            have L1 : g20 386 2 = (L : Int) := (rg20.s (by decide)).trans L0
                            have ha : AH T L (s0 386 5).toNat g20 := by
                              have q : AH (s0 387) (s0 386 2).toNat (s0 386 5).toNat g20 := qg20
                              rw [hT, hL] at q
                              exact q
                            have R1 : RSq t P e (.inl (i + 1)) g20 := rs_next (F := fun k => .inl (k + 1)) tk A hi (by omega) (by omega) rfl ha
                            have T2 : g42 387 = T := (rg42.a (by decide)).trans T1
                            have L2 : g42 386 2 = (L : Int) := (rg42.s (by decide)).trans L1
                            have RV2 : RSq t P e (zbd (.inl (i + 1)) (nNa t (tkL t d))) g42 ∧ _ := qg42
                            have R2 := RV2.1
                            have T3 : g48 387 = T := by rw [eg48, zup_na (by decide), T2]
                            have L3 : g48 386 2 = (L : Int) := by rw [eg48, zup_ne (Or.inl (by decide)), L2]
                            have R3 : RSq t P e (zbd (.inl (i + 1)) (nNa t (tkL t d))) g48 := by
                              rw [eg48]
                              exact RSq_st R2 (by decide)
                            have T4 : g54 387 = T := (rg54.a (by decide)).trans T3
                            have L4 : g54 386 2 = (L : Int) := (rg54.s (by decide)).trans L3
                            have R4 : RSq t P e (zbd (zbd (.inl (i + 1)) (nNa t (tkL t d))) (nOw t 1)) g54 := qg54
                            have T5 : g64 387 = T := (rg64.a (by decide)).trans T4
                            have L5 : g64 386 2 = (L : Int) := (rg64.s (by decide)).trans L4
                            have RV5 : RSq t P e (zbd (zbd (zbd (.inl (i + 1)) (nNa t (tkL t d))) (nOw t 1)) (nNu t 1 99)) g64 ∧ _ := qg64
                            have R5 := RV5.1
                            have T6 : g70 387 = T := by rw [eg70, zup_na (by decide), T5]
                            have L6 : g70 386 2 = (L : Int) := by rw [eg70, zup_ne (Or.inl (by decide)), L5]
                            have R6 : RSq t P e (zbd (zbd (zbd (.inl (i + 1)) (nNa t (tkL t d))) (nOw t 1)) (nNu t 1 99)) g70 := by
                              rw [eg70]
                              exact RSq_st R5 (by decide)
                            have T7 : g76 387 = T := (rg76.a (by decide)).trans T6
                            have L7 : g76 386 2 = (L : Int) := (rg76.s (by decide)).trans L6
                            have R7 : RSq t P e (zbd (zbd (zbd (zbd (.inl (i + 1)) (nNa t (tkL t d))) (nOw t 1)) (nNu t 1 99)) (nOw t 2)) g76 := qg76
                            have T8 : g86 387 = T := (rg86.a (by decide)).trans T7
                            have L8 : g86 386 2 = (L : Int) := (rg86.s (by decide)).trans L7
                            have RV8 : RSq t P e (zbd (zbd (zbd (zbd (zbd (.inl (i + 1)) (nNa t (tkL t d))) (nOw t 1)) (nNu t 1 99)) (nOw t 2)) (nNu t 1 999)) g86 ∧ _ := qg86
                            have R8 := RV8.1
                            have T9 : g92 387 = T := by rw [eg92, zup_na (by decide), T8]
                            have L9 : g92 386 2 = (L : Int) := by rw [eg92, zup_ne (Or.inl (by decide)), L8]
                            have R9 : RSq t P e (zbd (zbd (zbd (zbd (zbd (.inl (i + 1)) (nNa t (tkL t d))) (nOw t 1)) (nNu t 1 99)) (nOw t 2)) (nNu t 1 999)) g92 := by
                              rw [eg92]
                              exact RSq_st R8 (by decide)
                            have T10 : g98 387 = T := (rg98.a (by decide)).trans T9
                            have L10 : g98 386 2 = (L : Int) := (rg98.s (by decide)).trans L9
                            have R10 : RSq t P e (zbd (zbd (zbd (zbd (zbd (zbd (.inl (i + 1)) (nNa t (tkL t d))) (nOw t 1)) (nNu t 1 99)) (nOw t 2)) (nNu t 1 999)) (nOw t 8)) g98 := qg98
                            have T11 : g108 387 = T := (rg108.a (by decide)).trans T10
                            have L11 : g108 386 2 = (L : Int) := (rg108.s (by decide)).trans L10
                            have RV11 : RSq t P e (zbd (zbd (zbd (zbd (zbd (zbd (zbd (.inl (i + 1)) (nNa t (tkL t d))) (nOw t 1)) (nNu t 1 99)) (nOw t 2)) (nNu t 1 999)) (nOw t 8)) (nNu t 0 100)) g108 ∧ _ := qg108
                            have R11 := RV11.1
                            have T12 : g114 387 = T := by rw [eg114, zup_na (by decide), T11]
                            have L12 : g114 386 2 = (L : Int) := by rw [eg114, zup_ne (Or.inl (by decide)), L11]
                            have R12 : RSq t P e (zbd (zbd (zbd (zbd (zbd (zbd (zbd (.inl (i + 1)) (nNa t (tkL t d))) (nOw t 1)) (nNu t 1 99)) (nOw t 2)) (nNu t 1 999)) (nOw t 8)) (nNu t 0 100)) g114 := by
                              rw [eg114]
                              exact RSq_st R11 (by decide)
                            have T13 : g120 387 = T := (rg120.a (by decide)).trans T12
                            have L13 : g120 386 2 = (L : Int) := (rg120.s (by decide)).trans L12
                            have R13 : RSq t P e (zbd (zbd (zbd (zbd (zbd (zbd (zbd (zbd (.inl (i + 1)) (nNa t (tkL t d))) (nOw t 1)) (nNu t 1 99)) (nOw t 2)) (nNu t 1 999)) (nOw t 8)) (nNu t 0 100)) (nOw t 9)) g120 := qg120
                            exact w_2322 tk T13 L13 R13
                          · skip
                            intro x127 g130 rg130 qg130 g136 eg136
                            refine ⟨fun g' => RSq t P e (zbd (zbd (zbd (zbd (zbd (zbd (zbd (zbd (zbd (zbd (.inl (i + 1)) (nNa t (tkL t d))) (nOw t 1)) (nNu t 1 99)) (nOw t 2)) (nNu t 1 999)) (nOw t 8)) (nNu t 0 100)) (nOw t 9)) (nNu t 0 99)) (mkG t 3 0)) g', ?_, ?_⟩
                            · skip
                              have T0 : s0 387 = T := hT
                              have L0 : s0 386 2 = (L : Int) := hL
                              have T1 : g20 387 = T := (rg20.a (by decide)).trans T0
                              have L1 : g20 386 2 = (L : Int) := (rg20.s (by decide)).trans L0
                              have ha : AH T L (s0 386 5).toNat g20 := by
                                have q : AH (s0 387) (s0 386 2).toNat (s0 386 5).toNat g20 := qg20
                                rw [hT, hL] at q
                                exact q
                              have R1 : RSq t P e (.inl (i + 1)) g20 := rs_next (F := fun k => .inl (k + 1)) tk A hi (by omega) (by omega) rfl ha
                              have T2 : g42 387 = T := (rg42.a (by decide)).trans T1
                              have L2 : g42 386 2 = (L : Int) := (rg42.s (by decide)).trans L1
                              have RV2 : RSq t P e (zbd (.inl (i + 1)) (nNa t (tkL t d))) g42 ∧ _ := qg42
                              have R2 := RV2.1
                              have T3 : g48 387 = T := by rw [eg48, zup_na (by decide), T2]
                              have L3 : g48 386 2 = (L : Int) := by rw [eg48, zup_ne (Or.inl (by decide)), L2]
                              have R3 : RSq t P e (zbd (.inl (i + 1)) (nNa t (tkL t d))) g48 := by
                                rw [eg48]
                                exact RSq_st R2 (by decide)
                              have T4 : g54 387 = T := (rg54.a (by decide)).trans T3
                              have L4 : g54 386 2 = (L : Int) := (rg54.s (by decide)).trans L3
                              have R4 : RSq t P e (zbd (zbd (.inl (i + 1)) (nNa t (tkL t d))) (nOw t 1)) g54 := qg54
                              have T5 : g64 387 = T := (rg64.a (by decide)).trans T4
                              have L5 : g64 386 2 = (L : Int) := (rg64.s (by decide)).trans L4
                              have RV5 : RSq t P e (zbd (zbd (zbd (.inl (i + 1)) (nNa t (tkL t d))) (nOw t 1)) (nNu t 1 99)) g64 ∧ _ := qg64
                              have R5 := RV5.1
                              have T6 : g70 387 = T := by rw [eg70, zup_na (by decide), T5]
                              have L6 : g70 386 2 = (L : Int) := by rw [eg70, zup_ne (Or.inl (by decide)), L5]
                              have R6 : RSq t P e (zbd (zbd (zbd (.inl (i + 1)) (nNa t (tkL t d))) (nOw t 1)) (nNu t 1 99)) g70 := by
                                rw [eg70]
                                exact RSq_st R5 (by decide)
                              have T7 : g76 387 = T := (rg76.a (by decide)).trans T6
                              have L7 : g76 386 2 = (L : Int) := (rg76.s (by decide)).trans L6
                              have R7 : RSq t P e (zbd (zbd (zbd (zbd (.inl (i + 1)) (nNa t (tkL t d))) (nOw t 1)) (nNu t 1 99)) (nOw t 2)) g76 := qg76
                              have T8 : g86 387 = T := (rg86.a (by decide)).trans T7
                              have L8 : g86 386 2 = (L : Int) := (rg86.s (by decide)).trans L7
                              have RV8 : RSq t P e (zbd (zbd (zbd (zbd (zbd (.inl (i + 1)) (nNa t (tkL t d))) (nOw t 1)) (nNu t 1 99)) (nOw t 2)) (nNu t 1 999)) g86 ∧ _ := qg86
                              have R8 := RV8.1
                              have T9 : g92 387 = T := by rw [eg92, zup_na (by decide), T8]
                              have L9 : g92 386 2 = (L : Int) := by rw [eg92, zup_ne (Or.inl (by decide)), L8]
                              have R9 : RSq t P e (zbd (zbd (zbd (zbd (zbd (.inl (i + 1)) (nNa t (tkL t d))) (nOw t 1)) (nNu t 1 99)) (nOw t 2)) (nNu t 1 999)) g92 := by
                                rw [eg92]
                                exact RSq_st R8 (by decide)
                              have T10 : g98 387 = T := (rg98.a (by decide)).trans T9
                              have L10 : g98 386 2 = (L : Int) := (rg98.s (by decide)).trans L9
                              have R10 : RSq t P e (zbd (zbd (zbd (zbd (zbd (zbd (.inl (i + 1)) (nNa t (tkL t d))) (nOw t 1)) (nNu t 1 99)) (nOw t 2)) (nNu t 1 999)) (nOw t 8)) g98 := qg98
                              have T11 : g108 387 = T := (rg108.a (by decide)).trans T10
                              have L11 : g108 386 2 = (L : Int) := (rg108.s (by decide)).trans L10
                              have RV11 : RSq t P e (zbd (zbd (zbd (zbd (zbd (zbd (zbd (.inl (i + 1)) (nNa t (tkL t d))) (nOw t 1)) (nNu t 1 99)) (nOw t 2)) (nNu t 1 999)) (nOw t 8)) (nNu t 0 100)) g108 ∧ _ := qg108
                              have R11 := RV11.1
                              have T12 : g114 387 = T := by rw [eg114, zup_na (by decide), T11]
                              have L12 : g114 386 2 = (L : Int) := by rw [eg114, zup_ne (Or.inl (by decide)), L11]
                              have R12 : RSq t P e (zbd (zbd (zbd (zbd (zbd (zbd (zbd (.inl (i + 1)) (nNa t (tkL t d))) (nOw t 1)) (nNu t 1 99)) (nOw t 2)) (nNu t 1 999)) (nOw t 8)) (nNu t 0 100)) g114 := by
                                rw [eg114]
                                exact RSq_st R11 (by decide)
                              have T13 : g120 387 = T := (rg120.a (by decide)).trans T12
                              have L13 : g120 386 2 = (L : Int) := (rg120.s (by decide)).trans L12
                              have R13 : RSq t P e (zbd (zbd (zbd (zbd (zbd (zbd (zbd (zbd (.inl (i + 1)) (nNa t (tkL t d))) (nOw t 1)) (nNu t 1 99)) (nOw t 2)) (nNu t 1 999)) (nOw t 8)) (nNu t 0 100)) (nOw t 9)) g120 := qg120
                              have T14 : g130 387 = T := (rg130.a (by decide)).trans T13
                              have L14 : g130 386 2 = (L : Int) := (rg130.s (by decide)).trans L13
                              have RV14 : RSq t P e (zbd (zbd (zbd (zbd (zbd (zbd (zbd (zbd (zbd (.inl (i + 1)) (nNa t (tkL t d))) (nOw t 1)) (nNu t 1 99)) (nOw t 2)) (nNu t 1 999)) (nOw t 8)) (nNu t 0 100)) (nOw t 9)) (nNu t 0 99)) g130 ∧ _ := qg130
                              have R14 := RV14.1
                              have T15 : g136 387 = T := by rw [eg136, zup_na (by decide), T14]
                              have L15 : g136 386 2 = (L : Int) := by rw [eg136, zup_ne (Or.inl (by decide)), L14]
                              have R15 : RSq t P e (zbd (zbd (zbd (zbd (zbd (zbd (zbd (zbd (zbd (.inl (i + 1)) (nNa t (tkL t d))) (nOw t 1)) (nNu t 1 99)) (nOw t 2)) (nNu t 1 999)) (nOw t 8)) (nNu t 0 100)) (nOw t 9)) (nNu t 0 99)) g136 := by
                                rw [eg136]
                                exact RSq_st R14 (by decide)
                              exact w_2324 tk T15 L15 R15
                            · skip
                              intro g142 rg142 qg142 x144 ex144 o46 o47
                              refine ⟨fun h48z => ?_, fun h48z => ?_⟩
                              · skip
                                obtain ⟨w, hw, h35, n1, n2, n3⟩ := D
                                have ew : x1.toNat = w := by omega
                                have e8 : x8 = ((dB d).length : Int) := by
                                  rw [ex8, ew]
                                  exact n1.1
                                have T0 : s0 387 = T := hT
                                have L0 : s0 386 2 = (L : Int) := hL
                                have T1 : g20 387 = T := (rg20.a (by decide)).trans T0
                                have L1 : g20 386 2 = (L : Int) := (rg20.s (by decide)).trans L0
                                have ha : AH T L (s0 386 5).toNat g20 := by
                                  have q : AH (s0 387) (s0 386 2).toNat (s0 386 5).toNat g20 := qg20
                                  rw [hT, hL] at q
                                  exact q
                                have R1 : RSq t P e (.inl (i + 1)) g20 := rs_next (F := fun k => .inl (k + 1)) tk A hi (by omega) (by omega) rfl ha
                                have T2 : g42 387 = T := (rg42.a (by decide)).trans T1
                                have L2 : g42 386 2 = (L : Int) := (rg42.s (by decide)).trans L1
                                have RV2 : RSq t P e (zbd (.inl (i + 1)) (nNa t (tkL t d))) g42 ∧ _ := qg42
                                have R2 := RV2.1
                                have T3 : g48 387 = T := by rw [eg48, zup_na (by decide), T2]
                                have L3 : g48 386 2 = (L : Int) := by rw [eg48, zup_ne (Or.inl (by decide)), L2]
                                have R3 : RSq t P e (zbd (.inl (i + 1)) (nNa t (tkL t d))) g48 := by
                                  rw [eg48]
                                  exact RSq_st R2 (by decide)
                                have T4 : g54 387 = T := (rg54.a (by decide)).trans T3
                                have L4 : g54 386 2 = (L : Int) := (rg54.s (by decide)).trans L3
                                have R4 : RSq t P e (zbd (zbd (.inl (i + 1)) (nNa t (tkL t d))) (nOw t 1)) g54 := qg54
                                have T5 : g64 387 = T := (rg64.a (by decide)).trans T4
                                have L5 : g64 386 2 = (L : Int) := (rg64.s (by decide)).trans L4
                                have RV5 : RSq t P e (zbd (zbd (zbd (.inl (i + 1)) (nNa t (tkL t d))) (nOw t 1)) (nNu t 1 99)) g64 ∧ _ := qg64
                                have R5 := RV5.1
                                have T6 : g70 387 = T := by rw [eg70, zup_na (by decide), T5]
                                have L6 : g70 386 2 = (L : Int) := by rw [eg70, zup_ne (Or.inl (by decide)), L5]
                                have R6 : RSq t P e (zbd (zbd (zbd (.inl (i + 1)) (nNa t (tkL t d))) (nOw t 1)) (nNu t 1 99)) g70 := by
                                  rw [eg70]
                                  exact RSq_st R5 (by decide)
                                have T7 : g76 387 = T := (rg76.a (by decide)).trans T6
                                have L7 : g76 386 2 = (L : Int) := (rg76.s (by decide)).trans L6
                                have R7 : RSq t P e (zbd (zbd (zbd (zbd (.inl (i + 1)) (nNa t (tkL t d))) (nOw t 1)) (nNu t 1 99)) (nOw t 2)) g76 := qg76
                                have T8 : g86 387 = T := (rg86.a (by decide)).trans T7
                                have L8 : g86 386 2 = (L : Int) := (rg86.s (by decide)).trans L7
                                have RV8 : RSq t P e (zbd (zbd (zbd (zbd (zbd (.inl (i + 1)) (nNa t (tkL t d))) (nOw t 1)) (nNu t 1 99)) (nOw t 2)) (nNu t 1 999)) g86 ∧ _ := qg86
                                have R8 := RV8.1
                                have T9 : g92 387 = T := by rw [eg92, zup_na (by decide), T8]
                                have L9 : g92 386 2 = (L : Int) := by rw [eg92, zup_ne (Or.inl (by decide)), L8]
                                have R9 : RSq t P e (zbd (zbd (zbd (zbd (zbd (.inl (i + 1)) (nNa t (tkL t d))) (nOw t 1)) (nNu t 1 99)) (nOw t 2)) (nNu t 1 999)) g92 := by
                                  rw [eg92]
                                  exact RSq_st R8 (by decide)
                                have T10 : g98 387 = T := (rg98.a (by decide)).trans T9
                                have L10 : g98 386 2 = (L : Int) := (rg98.s (by decide)).trans L9
                                have R10 : RSq t P e (zbd (zbd (zbd (zbd (zbd (zbd (.inl (i + 1)) (nNa t (tkL t d))) (nOw t 1)) (nNu t 1 99)) (nOw t 2)) (nNu t 1 999)) (nOw t 8)) g98 := qg98
                                have T11 : g108 387 = T := (rg108.a (by decide)).trans T10
                                have L11 : g108 386 2 = (L : Int) := (rg108.s (by decide)).trans L10
                                have RV11 : RSq t P e (zbd (zbd (zbd (zbd (zbd (zbd (zbd (.inl (i + 1)) (nNa t (tkL t d))) (nOw t 1)) (nNu t 1 99)) (nOw t 2)) (nNu t 1 999)) (nOw t 8)) (nNu t 0 100)) g108 ∧ _ := qg108
                                have R11 := RV11.1
                                have T12 : g114 387 = T := by rw [eg114, zup_na (by decide), T11]
                                have L12 : g114 386 2 = (L : Int) := by rw [eg114, zup_ne (Or.inl (by decide)), L11]
                                have R12 : RSq t P e (zbd (zbd (zbd (zbd (zbd (zbd (zbd (.inl (i + 1)) (nNa t (tkL t d))) (nOw t 1)) (nNu t 1 99)) (nOw t 2)) (nNu t 1 999)) (nOw t 8)) (nNu t 0 100)) g114 := by
                                  rw [eg114]
                                  exact RSq_st R11 (by decide)
                                have T13 : g120 387 = T := (rg120.a (by decide)).trans T12
                                have L13 : g120 386 2 = (L : Int) := (rg120.s (by decide)).trans L12
                                have R13 : RSq t P e (zbd (zbd (zbd (zbd (zbd (zbd (zbd (zbd (.inl (i + 1)) (nNa t (tkL t d))) (nOw t 1)) (nNu t 1 99)) (nOw t 2)) (nNu t 1 999)) (nOw t 8)) (nNu t 0 100)) (nOw t 9)) g120 := qg120
                                have T14 : g130 387 = T := (rg130.a (by decide)).trans T13
                                have L14 : g130 386 2 = (L : Int) := (rg130.s (by decide)).trans L13
                                have RV14 : RSq t P e (zbd (zbd (zbd (zbd (zbd (zbd (zbd (zbd (zbd (.inl (i + 1)) (nNa t (tkL t d))) (nOw t 1)) (nNu t 1 99)) (nOw t 2)) (nNu t 1 999)) (nOw t 8)) (nNu t 0 100)) (nOw t 9)) (nNu t 0 99)) g130 ∧ _ := qg130
                                have R14 := RV14.1
                                have T15 : g136 387 = T := by rw [eg136, zup_na (by decide), T14]
                                have L15 : g136 386 2 = (L : Int) := by rw [eg136, zup_ne (Or.inl (by decide)), L14]
                                have R15 : RSq t P e (zbd (zbd (zbd (zbd (zbd (zbd (zbd (zbd (zbd (.inl (i + 1)) (nNa t (tkL t d))) (nOw t 1)) (nNu t 1 99)) (nOw t 2)) (nNu t 1 999)) (nOw t 8)) (nNu t 0 100)) (nOw t 9)) (nNu t 0 99)) g136 := by
                                  rw [eg136]
                                  exact RSq_st R14 (by decide)
                                have T16 : g142 387 = T := (rg142.a (by decide)).trans T15
                                have L16 : g142 386 2 = (L : Int) := (rg142.s (by decide)).trans L15
                                have R16 : RSq t P e (zbd (zbd (zbd (zbd (zbd (zbd (zbd (zbd (zbd (zbd (.inl (i + 1)) (nNa t (tkL t d))) (nOw t 1)) (nNu t 1 99)) (nOw t 2)) (nNu t 1 999)) (nOw t 8)) (nNu t 0 100)) (nOw t 9)) (nNu t 0 99)) (mkG t 3 0)) g142 := qg142
                                refine ⟨⟨_, R16, ?_⟩, fun z => ?_, ⟨fun k hk => by rw [rg142.a (a := 388) (by decide), eg136, zup_ne (Or.inl (by decide)), rg130.a (a := 388) (by decide), rg120.a (a := 388) (by decide), eg114, zup_ne (Or.inl (by decide)), rg108.a (a := 388) (by decide), rg98.a (a := 388) (by decide), eg92, zup_ne (Or.inl (by decide)), rg86.a (a := 388) (by decide), rg76.a (a := 388) (by decide), eg70, zup_ne (Or.inl (by decide)), rg64.a (a := 388) (by decide), rg54.a (a := 388) (by decide), eg48, zup_ne (Or.inl (by decide)), rg42.a (a := 388) (by decide), rg20.a (a := 388) (by decide)], fun k hk => by rw [rg142.a (a := 389) (by decide), eg136, zup_ne (Or.inl (by decide)), rg130.a (a := 389) (by decide), rg120.a (a := 389) (by decide), eg114, zup_ne (Or.inl (by decide)), rg108.a (a := 389) (by decide), rg98.a (a := 389) (by decide), eg92, zup_ne (Or.inl (by decide)), rg86.a (a := 389) (by decide), rg76.a (a := 389) (by decide), eg70, zup_ne (Or.inl (by decide)), rg64.a (a := 389) (by decide), rg54.a (a := 389) (by decide), eg48, zup_ne (Or.inr (by omega)), rg42.a (a := 389) (by decide), rg20.a (a := 389) (by decide)], fun k hk => by rw [rg142.a (a := 396) (by decide), eg136, zup_ne (Or.inl (by decide)), rg130.a (a := 396) (by decide), rg120.a (a := 396) (by decide), eg114, zup_ne (Or.inl (by decide)), rg108.a (a := 396) (by decide), rg98.a (a := 396) (by decide), eg92, zup_ne (Or.inl (by decide)), rg86.a (a := 396) (by decide), rg76.a (a := 396) (by decide), eg70, zup_ne (Or.inl (by decide)), rg64.a (a := 396) (by decide), rg54.a (a := 396) (by decide), eg48, zup_ne (Or.inl (by decide)), rg42.a (a := 396) (by decide), rg20.a (a := 396) (by decide)], fun k hk => by rw [rg142.a (a := 397) (by decide), eg136, zup_ne (Or.inl (by decide)), rg130.a (a := 397) (by decide), rg120.a (a := 397) (by decide), eg114, zup_ne (Or.inl (by decide)), rg108.a (a := 397) (by decide), rg98.a (a := 397) (by decide), eg92, zup_ne (Or.inl (by decide)), rg86.a (a := 397) (by decide), rg76.a (a := 397) (by decide), eg70, zup_ne (Or.inl (by decide)), rg64.a (a := 397) (by decide), rg54.a (a := 397) (by decide), eg48, zup_ne (Or.inl (by decide)), rg42.a (a := 397) (by decide), rg20.a (a := 397) (by decide)]⟩⟩
                                · rw [stF_7 hk (by omega)]
                                  exact boy_eq
                                · exact absurd z (by omega)
                              · skip
                                intro x154 ex154 g160 eg160
                                obtain ⟨w, hw, h35, n1, n2, n3⟩ := D
                                have ew : x1.toNat = w := by omega
                                have e8 : x8 = ((dB d).length : Int) := by
                                  rw [ex8, ew]
                                  exact n1.1
                                have T0 : s0 387 = T := hT
                                have L0 : s0 386 2 = (L : Int) := hL
                                have T1 : g20 387 = T := (rg20.a (by decide)).trans T0
                                have L1 : g20 386 2 = (L : Int) := (rg20.s (by decide)).trans L0
                                have ha : AH T L (s0 386 5).toNat g20 := by
                                  have q : AH (s0 387) (s0 386 2).toNat (s0 386 5).toNat g20 := qg20
                                  rw [hT, hL] at q
                                  exact q
                                have R1 : RSq t P e (.inl (i + 1)) g20 := rs_next (F := fun k => .inl (k + 1)) tk A hi (by omega) (by omega) rfl ha
                                have T2 : g42 387 = T := (rg42.a (by decide)).trans T1
                                have L2 : g42 386 2 = (L : Int) := (rg42.s (by decide)).trans L1
                                have RV2 : RSq t P e (zbd (.inl (i + 1)) (nNa t (tkL t d))) g42 ∧ _ := qg42
                                have R2 := RV2.1
                                have T3 : g48 387 = T := by rw [eg48, zup_na (by decide), T2]
                                have L3 : g48 386 2 = (L : Int) := by rw [eg48, zup_ne (Or.inl (by decide)), L2]
                                have R3 : RSq t P e (zbd (.inl (i + 1)) (nNa t (tkL t d))) g48 := by
                                  rw [eg48]
                                  exact RSq_st R2 (by decide)
                                have T4 : g54 387 = T := (rg54.a (by decide)).trans T3
                                have L4 : g54 386 2 = (L : Int) := (rg54.s (by decide)).trans L3
                                have R4 : RSq t P e (zbd (zbd (.inl (i + 1)) (nNa t (tkL t d))) (nOw t 1)) g54 := qg54
                                have T5 : g64 387 = T := (rg64.a (by decide)).trans T4
                                have L5 : g64 386 2 = (L : Int) := (rg64.s (by decide)).trans L4
                                have RV5 : RSq t P e (zbd (zbd (zbd (.inl (i + 1)) (nNa t (tkL t d))) (nOw t 1)) (nNu t 1 99)) g64 ∧ _ := qg64
                                have R5 := RV5.1
                                have T6 : g70 387 = T := by rw [eg70, zup_na (by decide), T5]
                                have L6 : g70 386 2 = (L : Int) := by rw [eg70, zup_ne (Or.inl (by decide)), L5]
                                have R6 : RSq t P e (zbd (zbd (zbd (.inl (i + 1)) (nNa t (tkL t d))) (nOw t 1)) (nNu t 1 99)) g70 := by
                                  rw [eg70]
                                  exact RSq_st R5 (by decide)
                                have T7 : g76 387 = T := (rg76.a (by decide)).trans T6
                                have L7 : g76 386 2 = (L : Int) := (rg76.s (by decide)).trans L6
                                have R7 : RSq t P e (zbd (zbd (zbd (zbd (.inl (i + 1)) (nNa t (tkL t d))) (nOw t 1)) (nNu t 1 99)) (nOw t 2)) g76 := qg76
                                have T8 : g86 387 = T := (rg86.a (by decide)).trans T7
                                have L8 : g86 386 2 = (L : Int) := (rg86.s (by decide)).trans L7
                                have RV8 : RSq t P e (zbd (zbd (zbd (zbd (zbd (.inl (i + 1)) (nNa t (tkL t d))) (nOw t 1)) (nNu t 1 99)) (nOw t 2)) (nNu t 1 999)) g86 ∧ _ := qg86
                                have R8 := RV8.1
                                have T9 : g92 387 = T := by rw [eg92, zup_na (by decide), T8]
                                have L9 : g92 386 2 = (L : Int) := by rw [eg92, zup_ne (Or.inl (by decide)), L8]
                                have R9 : RSq t P e (zbd (zbd (zbd (zbd (zbd (.inl (i + 1)) (nNa t (tkL t d))) (nOw t 1)) (nNu t 1 99)) (nOw t 2)) (nNu t 1 999)) g92 := by
                                  rw [eg92]
                                  exact RSq_st R8 (by decide)
                                have T10 : g98 387 = T := (rg98.a (by decide)).trans T9
                                have L10 : g98 386 2 = (L : Int) := (rg98.s (by decide)).trans L9
                                have R10 : RSq t P e (zbd (zbd (zbd (zbd (zbd (zbd (.inl (i + 1)) (nNa t (tkL t d))) (nOw t 1)) (nNu t 1 99)) (nOw t 2)) (nNu t 1 999)) (nOw t 8)) g98 := qg98
                                have T11 : g108 387 = T := (rg108.a (by decide)).trans T10
                                have L11 : g108 386 2 = (L : Int) := (rg108.s (by decide)).trans L10
                                have RV11 : RSq t P e (zbd (zbd (zbd (zbd (zbd (zbd (zbd (.inl (i + 1)) (nNa t (tkL t d))) (nOw t 1)) (nNu t 1 99)) (nOw t 2)) (nNu t 1 999)) (nOw t 8)) (nNu t 0 100)) g108 ∧ _ := qg108
                                have R11 := RV11.1
                                have T12 : g114 387 = T := by rw [eg114, zup_na (by decide), T11]
                                have L12 : g114 386 2 = (L : Int) := by rw [eg114, zup_ne (Or.inl (by decide)), L11]
                                have R12 : RSq t P e (zbd (zbd (zbd (zbd (zbd (zbd (zbd (.inl (i + 1)) (nNa t (tkL t d))) (nOw t 1)) (nNu t 1 99)) (nOw t 2)) (nNu t 1 999)) (nOw t 8)) (nNu t 0 100)) g114 := by
                                  rw [eg114]
                                  exact RSq_st R11 (by decide)
                                have T13 : g120 387 = T := (rg120.a (by decide)).trans T12
                                have L13 : g120 386 2 = (L : Int) := (rg120.s (by decide)).trans L12
                                have R13 : RSq t P e (zbd (zbd (zbd (zbd (zbd (zbd (zbd (zbd (.inl (i + 1)) (nNa t (tkL t d))) (nOw t 1)) (nNu t 1 99)) (nOw t 2)) (nNu t 1 999)) (nOw t 8)) (nNu t 0 100)) (nOw t 9)) g120 := qg120
                                have T14 : g130 387 = T := (rg130.a (by decide)).trans T13
                                have L14 : g130 386 2 = (L : Int) := (rg130.s (by decide)).trans L13
                                have RV14 : RSq t P e (zbd (zbd (zbd (zbd (zbd (zbd (zbd (zbd (zbd (.inl (i + 1)) (nNa t (tkL t d))) (nOw t 1)) (nNu t 1 99)) (nOw t 2)) (nNu t 1 999)) (nOw t 8)) (nNu t 0 100)) (nOw t 9)) (nNu t 0 99)) g130 ∧ _ := qg130
                                have R14 := RV14.1
                                have T15 : g136 387 = T := by rw [eg136, zup_na (by decide), T14]
                                have L15 : g136 386 2 = (L : Int) := by rw [eg136, zup_ne (Or.inl (by decide)), L14]
                                have R15 : RSq t P e (zbd (zbd (zbd (zbd (zbd (zbd (zbd (zbd (zbd (.inl (i + 1)) (nNa t (tkL t d))) (nOw t 1)) (nNu t 1 99)) (nOw t 2)) (nNu t 1 999)) (nOw t 8)) (nNu t 0 100)) (nOw t 9)) (nNu t 0 99)) g136 := by
                                  rw [eg136]
                                  exact RSq_st R14 (by decide)
                                have T16 : g142 387 = T := (rg142.a (by decide)).trans T15
                                have L16 : g142 386 2 = (L : Int) := (rg142.s (by decide)).trans L15
                                have R16 : RSq t P e (zbd (zbd (zbd (zbd (zbd (zbd (zbd (zbd (zbd (zbd (.inl (i + 1)) (nNa t (tkL t d))) (nOw t 1)) (nNu t 1 99)) (nOw t 2)) (nNu t 1 999)) (nOw t 8)) (nNu t 0 100)) (nOw t 9)) (nNu t 0 99)) (mkG t 3 0)) g142 := qg142
                                have T17 : g160 387 = T := by rw [eg160, zup_na (by decide), T16]
                                have L17 : g160 386 2 = (L : Int) := by rw [eg160, zup_ne (Or.inl (by decide)), L16]
                                have R17 : RSq t P e (zbd (zbd (zbd (zbd (zbd (zbd (zbd (zbd (zbd (zbd (.inl (i + 1)) (nNa t (tkL t d))) (nOw t 1)) (nNu t 1 99)) (nOw t 2)) (nNu t 1 999)) (nOw t 8)) (nNu t 0 100)) (nOw t 9)) (nNu t 0 99)) (mkG t 3 0)) g160 := by
                                  rw [eg160]
                                  exact RSq_st R16 (by decide)
                                refine ⟨⟨_, R17, ?_⟩, fun z => ?_, ⟨fun k hk => by rw [eg160, zup_ne (Or.inr (by omega)), rg142.a (a := 388) (by decide), eg136, zup_ne (Or.inl (by decide)), rg130.a (a := 388) (by decide), rg120.a (a := 388) (by decide), eg114, zup_ne (Or.inl (by decide)), rg108.a (a := 388) (by decide), rg98.a (a := 388) (by decide), eg92, zup_ne (Or.inl (by decide)), rg86.a (a := 388) (by decide), rg76.a (a := 388) (by decide), eg70, zup_ne (Or.inl (by decide)), rg64.a (a := 388) (by decide), rg54.a (a := 388) (by decide), eg48, zup_ne (Or.inl (by decide)), rg42.a (a := 388) (by decide), rg20.a (a := 388) (by decide)], fun k hk => by rw [eg160, zup_ne (Or.inl (by decide)), rg142.a (a := 389) (by decide), eg136, zup_ne (Or.inl (by decide)), rg130.a (a := 389) (by decide), rg120.a (a := 389) (by decide), eg114, zup_ne (Or.inl (by decide)), rg108.a (a := 389) (by decide), rg98.a (a := 389) (by decide), eg92, zup_ne (Or.inl (by decide)), rg86.a (a := 389) (by decide), rg76.a (a := 389) (by decide), eg70, zup_ne (Or.inl (by decide)), rg64.a (a := 389) (by decide), rg54.a (a := 389) (by decide), eg48, zup_ne (Or.inr (by omega)), rg42.a (a := 389) (by decide), rg20.a (a := 389) (by decide)], fun k hk => by rw [eg160, zup_ne (Or.inl (by decide)), rg142.a (a := 396) (by decide), eg136, zup_ne (Or.inl (by decide)), rg130.a (a := 396) (by decide), rg120.a (a := 396) (by decide), eg114, zup_ne (Or.inl (by decide)), rg108.a (a := 396) (by decide), rg98.a (a := 396) (by decide), eg92, zup_ne (Or.inl (by decide)), rg86.a (a := 396) (by decide), rg76.a (a := 396) (by decide), eg70, zup_ne (Or.inl (by decide)), rg64.a (a := 396) (by decide), rg54.a (a := 396) (by decide), eg48, zup_ne (Or.inl (by decide)), rg42.a (a := 396) (by decide), rg20.a (a := 396) (by decide)], fun k hk => by rw [eg160, zup_ne (Or.inl (by decide)), rg142.a (a := 397) (by decide), eg136, zup_ne (Or.inl (by decide)), rg130.a (a := 397) (by decide), rg120.a (a := 397) (by decide), eg114, zup_ne (Or.inl (by decide)), rg108.a (a := 397) (by decide), rg98.a (a := 397) (by decide), eg92, zup_ne (Or.inl (by decide)), rg86.a (a := 397) (by decide), rg76.a (a := 397) (by decide), eg70, zup_ne (Or.inl (by decide)), rg64.a (a := 397) (by decide), rg54.a (a := 397) (by decide), eg48, zup_ne (Or.inl (by decide)), rg42.a (a := 397) (by decide), rg20.a (a := 397) (by decide)]⟩⟩
                                · rw [stF_7 hk (by omega)]
                                  exact boy_eq
                                · rw [stD_7 hk]
                                  have ei : x34.toNat = 12 * w + x8.toNat := by omega
                                  obtain ⟨kz, hz, -⟩ := rs_ok R17 (by omega)
                                  obtain ⟨k0, hz, -⟩ := zbd_ok hz
                                  obtain ⟨k1, hz, -⟩ := zbd_ok hz
                                  obtain ⟨k2, hz, -⟩ := zbd_ok hz
                                  obtain ⟨k3, hz, -⟩ := zbd_ok hz
                                  obtain ⟨k4, hz, -⟩ := zbd_ok hz
                                  obtain ⟨k5, hz, -⟩ := zbd_ok hz
                                  obtain ⟨k6, hz, -⟩ := zbd_ok hz
                                  obtain ⟨k7, hz, -⟩ := zbd_ok hz
                                  obtain ⟨k8, hz, -⟩ := zbd_ok hz
                                  have hn : nNa t (tkL t d) (i + 1) = .inl _ := hz
                                  obtain ⟨v1, v2⟩ := RV2.2 (i + 1) _ rfl hn
                                  have u35 : g160 386 35 = s0 386 35 := by rw [eg160, zup_ne (Or.inl (by decide)), rg142.s (by decide), eg136, zup_ne (Or.inl (by decide)), rg130.s (by decide), rg120.s (by decide), eg114, zup_ne (Or.inl (by decide)), rg108.s (by decide), rg98.s (by decide), eg92, zup_ne (Or.inl (by decide)), rg86.s (by decide), rg76.s (by decide), eg70, zup_ne (Or.inl (by decide)), rg64.s (by decide), rg54.s (by decide), eg48, zup_ne (Or.inl (by decide)), rg42.s (by decide), rg20.s (by decide)]
                                  have u396 : g160 396 = s0 396 := by rw [eg160, zup_na (by decide), rg142.a (by decide), eg136, zup_na (by decide), rg130.a (by decide), rg120.a (by decide), eg114, zup_na (by decide), rg108.a (by decide), rg98.a (by decide), eg92, zup_na (by decide), rg86.a (by decide), rg76.a (by decide), eg70, zup_na (by decide), rg64.a (by decide), rg54.a (by decide), eg48, zup_na (by decide), rg42.a (by decide), rg20.a (by decide)]
                                  have u397 : g160 397 = s0 397 := by rw [eg160, zup_na (by decide), rg142.a (by decide), eg136, zup_na (by decide), rg130.a (by decide), rg120.a (by decide), eg114, zup_na (by decide), rg108.a (by decide), rg98.a (by decide), eg92, zup_na (by decide), rg86.a (by decide), rg76.a (by decide), eg70, zup_na (by decide), rg64.a (by decide), rg54.a (by decide), eg48, zup_na (by decide), rg42.a (by decide), rg20.a (by decide)]
                                  have u402 : g160 402 = s0 402 := by rw [eg160, zup_na (by decide), rg142.a (by decide), eg136, zup_na (by decide), rg130.a (by decide), rg120.a (by decide), eg114, zup_na (by decide), rg108.a (by decide), rg98.a (by decide), eg92, zup_na (by decide), rg86.a (by decide), rg76.a (by decide), eg70, zup_na (by decide), rg64.a (by decide), rg54.a (by decide), eg48, zup_na (by decide), rg42.a (by decide), rg20.a (by decide)]
                                  have uc : g160 388 w = s0 388 w + 1 := by
                                    rw [eg160, ← ew, zup_eq, ← ex8]
                                    omega
                                  have un : g160 389 = g48 389 := by rw [eg160, zup_na (by decide), rg142.a (by decide), eg136, zup_na (by decide), rg130.a (by decide), rg120.a (by decide), eg114, zup_na (by decide), rg108.a (by decide), rg98.a (by decide), eg92, zup_na (by decide), rg86.a (by decide), rg76.a (by decide), eg70, zup_na (by decide), rg64.a (by decide), rg54.a (by decide)]
                                  have uv : g160 389 (12 * w + (s0 388 w).toNat) = y41 := by
                                    rw [un, ← ew, ← ex8, ew, ← ei, eg48, zup_eq]
                                  have uo : ∀ k, k ≠ 12 * w + (s0 388 w).toNat → g160 389 k = s0 389 k := by
                                    intro k hk
                                    rw [← ew, ← ex8, ew, ← ei] at hk
                                    rw [un, eg48, zup_ne (Or.inr hk), rg42.a (by decide), rg20.a (by decide)]
                                  exact ⟨w, hw, by omega, NLr_s n1 uc (by rw [uv]; exact ⟨v1, v2⟩) uo, NLr_fr n2 (by rw [u396]) u397, by rw [u402]; exact n3⟩
  · skip
    intro x161 ex161 o9 o10
    refine ⟨fun h11z => ?_, fun h11z => ?_⟩
    · skip
      exfalso
      omega
    · skip
      intro x166 ex166 o13 o14 g174 eg174 g179 eg179
      obtain ⟨w, hw, h35, n1, n2, n3⟩ := D
      have ew : x1.toNat = w := by omega
      have e8 : x8 = ((dB d).length : Int) := by
        rw [ex8, ew]
        exact n1.1
      have g8 : g179 386 8 = 5 := by
        rw [eg179, zup_ne (Or.inr (by decide)), eg174, zup_eq]
      have g9 : g179 386 9 = t.2.2 i := by
        rw [eg179, zup_eq]
        have := A.2.2.1
        omega
      refine ⟨⟨.inr (5, t.2.2 i), ⟨g8, g9, by show (0 : Int) < 5; decide⟩, ?_⟩, fun z => absurd z (by omega), ⟨fun k hk => by rw [eg179, zup_ne (Or.inl (by decide)), eg174, zup_ne (Or.inl (by decide))], fun k hk => by rw [eg179, zup_ne (Or.inl (by decide)), eg174, zup_ne (Or.inl (by decide))], fun k hk => by rw [eg179, zup_ne (Or.inl (by decide)), eg174, zup_ne (Or.inl (by decide))], fun k hk => by rw [eg179, zup_ne (Or.inl (by decide)), eg174, zup_ne (Or.inl (by decide))]⟩⟩
      rw [stF_7f hk (by omega)]
set_option maxHeartbeats 4000000 in
theorem w_2325 {T : Nat → Int} {L e i : Nat} {t : zK} {P : Nat → Nat} {d : zDS} {s0 : zF} (tk : Toks T L t.1 t.2.1 t.2.2 P e) (hT : s0 387 = T) (hL : s0 386 2 = (L : Int)) (hi : i ≤ e) (A : ATT t P i s0) (hk : tokI t i = 12) (D : DIR t e s0 d) : p_2325 s0 (fun g => (∃ r, RSq t P e r g ∧ zbd r (nSc t) = zbd (stF t d i) (nSc t)) ∧ (g 386 8 = 0 → DIR t e g (stD t d i)) ∧ HFS s0 g) := by
  have k2 : t.1 i = 2 := tokI_2 (by omega)
  have a8 := A.2.1
  have aa5 := A.2.2.2.1
  unfold p_2325
  intro x1 ex1 o2 o3
  refine ⟨fun h4z => ?_, fun h4z => ?_⟩
  · skip
    exfalso
    omega
  · skip
    refine ⟨fun g' => AH (s0 387) (s0 386 2).toNat (s0 386 5).toNat g', ?_, ?_⟩
    · skip
      exact w_2310 (by omega) (by omega) (by omega)
    · skip
      intro g11 rg11 qg11 x13 ex13 o8 o9
      refine ⟨fun h10z => ?_, fun h10z => ?_⟩
      · skip
        have T0 : s0 387 = T := hT
        have L0 : s0 386 2 = (L : Int) := hL
        have T1 : g11 387 = T := (rg11.a (by decide)).trans T0
        have L1 : g11 386 2 = (L : Int) := (rg11.s (by decide)).trans L0
        have ha : AH T L (s0 386 5).toNat g11 := by
          have q : AH (s0 387) (s0 386 2).toNat (s0 386 5).toNat g11 := qg11
          rw [hT, hL] at q
          exact q
        have R1 : RSq t P e (.inl (i + 1)) g11 := rs_next (F := fun k => .inl (k + 1)) tk A hi (by omega) (by omega) rfl ha
        have Z0 := R1
        have Z1 := rs_fault Z0 (F := nNu t 0 99) (by omega) (fun i h => nNu_bad h)
        have Z2 := rs_fault Z1 (F := nOw t 13) (by omega) (fun i h => nOw_bad (by decide) h)
        have Z3 := rs_fault Z2 (F := nNu t 0 10) (by omega) (fun i h => nNu_bad h)
        refine ⟨⟨_, Z3, ?_⟩, fun z => absurd z (by omega), ⟨fun k hk => by rw [rg11.a (a := 388) (by decide)], fun k hk => by rw [rg11.a (a := 389) (by decide)], fun k hk => by rw [rg11.a (a := 396) (by decide)], fun k hk => by rw [rg11.a (a := 397) (by decide)]⟩⟩
        rw [stF_12 hk, ← slack_eq]
      · skip
        refine ⟨fun v g' => RSq t P e (zbd (.inl (i + 1)) (nNu t 0 99)) g' ∧ ∀ i' j, (.inl (i + 1) : zP) = .inl i' → nNu t 0 99 i' = .inl j → v = t.2.1 i', ?_, ?_⟩
        · skip
          have T0 : s0 387 = T := hT
          have L0 : s0 386 2 = (L : Int) := hL
          have T1 : g11 387 = T := (rg11.a (by decide)).trans T0
          have L1 : g11 386 2 = (L : Int) := (rg11.s (by decide)).trans L0
          have ha : AH T L (s0 386 5).toNat g11 := by
            have q : AH (s0 387) (s0 386 2).toNat (s0 386 5).toNat g11 := qg11
            rw [hT, hL] at q
            exact q
          have R1 : RSq t P e (.inl (i + 1)) g11 := rs_next (F := fun k => .inl (k + 1)) tk A hi (by omega) (by omega) rfl ha
          exact w_2322 tk T1 L1 R1
        · skip
          intro x23 g26 rg26 qg26
          refine ⟨fun g' => RSq t P e (zbd (zbd (.inl (i + 1)) (nNu t 0 99)) (nOw t 13)) g', ?_, ?_⟩
          · skip
            have T0 : s0 387 = T := hT
            have L0 : s0 386 2 = (L : Int) := hL
            have T1 : g11 387 = T := (rg11.a (by decide)).trans T0
            have L1 : g11 386 2 = (L : Int) := (rg11.s (by decide)).trans L0
            have ha : AH T L (s0 386 5).toNat g11 := by
              have q : AH (s0 387) (s0 386 2).toNat (s0 386 5).toNat g11 := qg11
              rw [hT, hL] at q
              exact q
            have R1 : RSq t P e (.inl (i + 1)) g11 := rs_next (F := fun k => .inl (k + 1)) tk A hi (by omega) (by omega) rfl ha
            have T2 : g26 387 = T := (rg26.a (by decide)).trans T1
            have L2 : g26 386 2 = (L : Int) := (rg26.s (by decide)).trans L1
            have RV2 : RSq t P e (zbd (.inl (i + 1)) (nNu t 0 99)) g26 ∧ _ := qg26
            have R2 := RV2.1
            exact w_2321 (w := 13) tk T2 L2 R2 (OW_w (by decide) rfl)
          · skip
            intro g33 rg33 qg33
            refine ⟨fun v g' => RSq t P e (zbd (zbd (zbd (.inl (i + 1)) (nNu t 0 99)) (nOw t 13)) (nNu t 0 10)) g' ∧ ∀ i' j, (zbd (zbd (.inl (i + 1)) (nNu t 0 99)) (nOw t 13) : zP) = .inl i' → nNu t 0 10 i' = .inl j → v = t.2.1 i', ?_, ?_⟩
            · skip
              have T0 : s0 387 = T := hT
              have L0 : s0 386 2 = (L : Int) := hL
              have T1 : g11 387 = T := (rg11.a (by decide)).trans T0
              have L1 : g11 386 2 = (L : Int) := (rg11.s (by decide)).trans L0
              have ha : AH T L (s0 386 5).toNat g11 := by
                have q : AH (s0 387) (s0 386 2).toNat (s0 386 5).toNat g11 := qg11
                rw [hT, hL] at q
                exact q
              have R1 : RSq t P e (.inl (i + 1)) g11 := rs_next (F := fun k => .inl (k + 1)) tk A hi (by omega) (by omega) rfl ha
              have T2 : g26 387 = T := (rg26.a (by decide)).trans T1
              have L2 : g26 386 2 = (L : Int) := (rg26.s (by decide)).trans L1
              have RV2 : RSq t P e (zbd (.inl (i + 1)) (nNu t 0 99)) g26 ∧ _ := qg26
              have R2 := RV2.1
              have T3 : g33 387 = T := (rg33.a (by decide)).trans T2
              have L3 : g33 386 2 = (L : Int) := (rg33.s (by decide)).trans L2
              have R3 : RSq t P e (zbd (zbd (.inl (i + 1)) (nNu t 0 99)) (nOw t 13)) g33 := qg33
              exact w_2322 tk T3 L3 R3
            · skip
              intro x40 g43 rg43 qg43 x45 ex45 o18 o19
              refine ⟨fun h20z => ?_, fun h20z => ?_⟩
              · skip
                have T0 : s0 387 = T := hT
                have L0 : s0 386 2 = (L : Int) := hL
                have T1 : g11 387 = T := (rg11.a (by decide)).trans T0
                have L1 : g11 386 2 = (L : Int) := (rg11.s (by decide)).trans L0
                have ha : AH T L (s0 386 5).toNat g11 := by
                  have q : AH (s0 387) (s0 386 2).toNat (s0 386 5).toNat g11 := qg11
                  rw [hT, hL] at q
                  exact q
                have R1 : RSq t P e (.inl (i + 1)) g11 := rs_next (F := fun k => .inl (k + 1)) tk A hi (by omega) (by omega) rfl ha
                have T2 : g26 387 = T := (rg26.a (by decide)).trans T1
                have L2 : g26 386 2 = (L : Int) := (rg26.s (by decide)).trans L1
                have RV2 : RSq t P e (zbd (.inl (i + 1)) (nNu t 0 99)) g26 ∧ _ := qg26
                have R2 := RV2.1
                have T3 : g33 387 = T := (rg33.a (by decide)).trans T2
                have L3 : g33 386 2 = (L : Int) := (rg33.s (by decide)).trans L2
                have R3 : RSq t P e (zbd (zbd (.inl (i + 1)) (nNu t 0 99)) (nOw t 13)) g33 := qg33
                have T4 : g43 387 = T := (rg43.a (by decide)).trans T3
                have L4 : g43 386 2 = (L : Int) := (rg43.s (by decide)).trans L3
                have RV4 : RSq t P e (zbd (zbd (zbd (.inl (i + 1)) (nNu t 0 99)) (nOw t 13)) (nNu t 0 10)) g43 ∧ _ := qg43
                have R4 := RV4.1
                refine ⟨⟨_, R4, ?_⟩, fun z => ?_, ⟨fun k hk => by rw [rg43.a (a := 388) (by decide), rg33.a (a := 388) (by decide), rg26.a (a := 388) (by decide), rg11.a (a := 388) (by decide)], fun k hk => by rw [rg43.a (a := 389) (by decide), rg33.a (a := 389) (by decide), rg26.a (a := 389) (by decide), rg11.a (a := 389) (by decide)], fun k hk => by rw [rg43.a (a := 396) (by decide), rg33.a (a := 396) (by decide), rg26.a (a := 396) (by decide), rg11.a (a := 396) (by decide)], fun k hk => by rw [rg43.a (a := 397) (by decide), rg33.a (a := 397) (by decide), rg26.a (a := 397) (by decide), rg11.a (a := 397) (by decide)]⟩⟩
                · rw [stF_12 hk, ← slack_eq]
                · rw [stD_12 hk]
                  exact DIR_fr D (by rw [rg43.s (by decide), rg33.s (by decide), rg26.s (by decide), rg11.s (by decide)]) (by rw [rg43.a (by decide), rg33.a (by decide), rg26.a (by decide), rg11.a (by decide)]) (by rw [rg43.a (by decide), rg33.a (by decide), rg26.a (by decide), rg11.a (by decide)]) (by rw [rg43.a (by decide), rg33.a (by decide), rg26.a (by decide), rg11.a (by decide)]) (by rw [rg43.a (by decide), rg33.a (by decide), rg26.a (by decide), rg11.a (by decide)]) (by rw [rg43.a (by decide), rg33.a (by decide), rg26.a (by decide), rg11.a (by decide)])
                
              · skip
                intro x50 ex50 o22 o23 x54 ex54 o25 x57 ex57 o27 g64 eg64
                have T0 : s0 387 = T := hT
                have L0 : s0 386 2 = (L : Int) := hL
                have T1 : g11 387 = T := (rg11.a (by decide)).trans T0
                have L1 : g11 386 2 = (L : Int) := (rg11.s (by decide)).trans L0
                have ha : AH T L (s0 386 5).toNat g11 := by
                  have q : AH (s0 387) (s0 386 2).toNat (s0 386 5).toNat g11 := qg11
                  rw [hT, hL] at q
                  exact q
                have R1 : RSq t P e (.inl (i + 1)) g11 := rs_next (F := fun k => .inl (k + 1)) tk A hi (by omega) (by omega) rfl ha
                have T2 : g26 387 = T := (rg26.a (by decide)).trans T1
                have L2 : g26 386 2 = (L : Int) := (rg26.s (by decide)).trans L1
                have RV2 : RSq t P e (zbd (.inl (i + 1)) (nNu t 0 99)) g26 ∧ _ := qg26
                have R2 := RV2.1
                have T3 : g33 387 = T := (rg33.a (by decide)).trans T2
                have L3 : g33 386 2 = (L : Int) := (rg33.s (by decide)).trans L2
                have R3 : RSq t P e (zbd (zbd (.inl (i + 1)) (nNu t 0 99)) (nOw t 13)) g33 := qg33
                have T4 : g43 387 = T := (rg43.a (by decide)).trans T3
                have L4 : g43 386 2 = (L : Int) := (rg43.s (by decide)).trans L3
                have RV4 : RSq t P e (zbd (zbd (zbd (.inl (i + 1)) (nNu t 0 99)) (nOw t 13)) (nNu t 0 10)) g43 ∧ _ := qg43
                have R4 := RV4.1
                have T5 : g64 387 = T := by rw [eg64, zup_na (by decide), T4]
                have L5 : g64 386 2 = (L : Int) := by rw [eg64, zup_ne (Or.inl (by decide)), L4]
                have R5 : RSq t P e (zbd (zbd (zbd (.inl (i + 1)) (nNu t 0 99)) (nOw t 13)) (nNu t 0 10)) g64 := by
                  rw [eg64]
                  exact RSq_st R4 (by decide)
                refine ⟨⟨_, R5, ?_⟩, fun z => ?_, ⟨fun k hk => by rw [eg64, zup_ne (Or.inl (by decide)), rg43.a (a := 388) (by decide), rg33.a (a := 388) (by decide), rg26.a (a := 388) (by decide), rg11.a (a := 388) (by decide)], fun k hk => by rw [eg64, zup_ne (Or.inl (by decide)), rg43.a (a := 389) (by decide), rg33.a (a := 389) (by decide), rg26.a (a := 389) (by decide), rg11.a (a := 389) (by decide)], fun k hk => by rw [eg64, zup_ne (Or.inl (by decide)), rg43.a (a := 396) (by decide), rg33.a (a := 396) (by decide), rg26.a (a := 396) (by decide), rg11.a (a := 396) (by decide)], fun k hk => by rw [eg64, zup_ne (Or.inl (by decide)), rg43.a (a := 397) (by decide), rg33.a (a := 397) (by decide), rg26.a (a := 397) (by decide), rg11.a (a := 397) (by decide)]⟩⟩
                · rw [stF_12 hk, ← slack_eq]
                · rw [stD_12 hk]
                  exact DIR_fr D (by rw [eg64, zup_ne (Or.inl (by decide)), rg43.s (by decide), rg33.s (by decide), rg26.s (by decide), rg11.s (by decide)]) (by rw [eg64, zup_na (by decide), rg43.a (by decide), rg33.a (by decide), rg26.a (by decide), rg11.a (by decide)]) (by rw [eg64, zup_na (by decide), rg43.a (by decide), rg33.a (by decide), rg26.a (by decide), rg11.a (by decide)]) (by rw [eg64, zup_na (by decide), rg43.a (by decide), rg33.a (by decide), rg26.a (by decide), rg11.a (by decide)]) (by rw [eg64, zup_na (by decide), rg43.a (by decide), rg33.a (by decide), rg26.a (by decide), rg11.a (by decide)]) (by rw [eg64, zup_na (by decide), rg43.a (by decide), rg33.a (by decide), rg26.a (by decide), rg11.a (by decide)])
                
set_option maxHeartbeats 4000000 in
theorem w_2326 {T : Nat → Int} {L e i : Nat} {t : zK} {P : Nat → Nat} {d : zDS} {s0 : zF} (tk : Toks T L t.1 t.2.1 t.2.2 P e) (hT : s0 387 = T) (hL : s0 386 2 = (L : Int)) (hi : i ≤ e) (A : ATT t P i s0) (hk : tokI t i = 14) (D : DIR t e s0 d) : p_2326 s0 (fun g => (∃ r, RSq t P e r g ∧ zbd r (nSc t) = zbd (stF t d i) (nSc t)) ∧ (g 386 8 = 0 → DIR t e g (stD t d i)) ∧ HFS s0 g) := by
  have k2 : t.1 i = 2 := tokI_2 (by omega)
  have a8 := A.2.1
  have aa5 := A.2.2.2.1
  unfold p_2326
  intro x1 ex1 o2 o3 x8 ex8 o5 o6
  refine ⟨fun h7z => ?_, fun h7z => ?_⟩
  · skip
    intro x10 ex10 o9 o10
    refine ⟨fun h11z => ?_, fun h11z => ?_⟩
    · skip
      exfalso
      omega
    · skip
      refine ⟨fun g' => AH (s0 387) (s0 386 2).toNat (s0 386 5).toNat g', ?_, ?_⟩
      · skip
        exact w_2310 (by omega) (by omega) (by omega)
      · skip
        intro g20 rg20 qg20 x22 ex22 o15 o16
        refine ⟨fun h17z => ?_, fun h17z => ?_⟩
        · skip
          obtain ⟨w, hw, h35, n1, n2, n3⟩ := D
          have ew : x1.toNat = w := by omega
          have e8 : x8 = ((dD d).length : Int) := by
            rw [ex8, ew]
            exact n2.1
          have T0 : s0 387 = T := hT
          have L0 : s0 386 2 = (L : Int) := hL
          have T1 : g20 387 = T := (rg20.a (by decide)).trans T0
          have L1 : g20 386 2 = (L : Int) := (rg20.s (by decide)).trans L0
          have ha : AH T L (s0 386 5).toNat g20 := by
            have q : AH (s0 387) (s0 386 2).toNat (s0 386 5).toNat g20 := qg20
            rw [hT, hL] at q
            exact q
          have R1 : RSq t P e (.inl (i + 1)) g20 := rs_next (F := fun k => .inl (k + 1)) tk A hi (by omega) (by omega) rfl ha
          have Z0 := R1
          have Z1 := rs_fault Z0 (F := nNa t (tkL t d)) (by omega) (fun i h => nNa_bad h)
          have Z2 := rs_fault Z1 (F := nOw t 15) (by omega) (fun i h => nOw_bad (by decide) h)
          have Z3 := rs_fault Z2 (F := nNu t 1 999) (by omega) (fun i h => nNu_bad h)
          have Z4 := rs_fault Z3 (F := nOw t 16) (by omega) (fun i h => nOw_bad (by decide) h)
          have Z5 := rs_fault Z4 (F := nNu t 1 60) (by omega) (fun i h => nNu_bad h)
          have Z6 := rs_fault Z5 (F := nOw t 17) (by omega) (fun i h => nOw_bad (by decide) h)
          have Z7 := rs_fault Z6 (F := nNu t 1 999) (by omega) (fun i h => nNu_bad h)
          have Z8 := rs_fault Z7 (F := nOw t 8) (by omega) (fun i h => nOw_bad (by decide) h)
          have Z9 := rs_fault Z8 (F := nNu t 1 99) (by omega) (fun i h => nNu_bad h)
          refine ⟨⟨_, Z9, ?_⟩, fun z => absurd z (by omega), ⟨fun k hk => by rw [rg20.a (a := 388) (by decide)], fun k hk => by rw [rg20.a (a := 389) (by decide)], fun k hk => by rw [rg20.a (a := 396) (by decide)], fun k hk => by rw [rg20.a (a := 397) (by decide)]⟩⟩
          rw [stF_14 hk (by omega), ← dream_eq]
        · skip
          intro x28 ex28 x34 ex34
          refine ⟨fun v g' => RSq t P e (zbd (.inl (i + 1)) (nNa t (tkL t d))) g' ∧ ∀ i' j, (.inl (i + 1) : zP) = .inl i' → nNa t (tkL t d) i' = .inl j → v = c8 (t.2.1 i') ∧ c5 (c8 (t.2.1 i')) = t.2.1 i' ∧ t.1 i' = 2 ∧ i' ≤ e, ?_, ?_⟩
          · skip
            have T0 : s0 387 = T := hT
            have L0 : s0 386 2 = (L : Int) := hL
            have T1 : g20 387 = T := (rg20.a (by decide)).trans T0
            have L1 : g20 386 2 = (L : Int) := (rg20.s (by decide)).trans L0
            have ha : AH T L (s0 386 5).toNat g20 := by
              have q : AH (s0 387) (s0 386 2).toNat (s0 386 5).toNat g20 := qg20
              rw [hT, hL] at q
              exact q
            have R1 : RSq t P e (.inl (i + 1)) g20 := rs_next (F := fun k => .inl (k + 1)) tk A hi (by omega) (by omega) rfl ha
            exact w_2318 tk T1 L1 R1 (DIR_fr D (by rw [rg20.s (by decide)]) (by rw [rg20.a (by decide)]) (by rw [rg20.a (by decide)]) (by rw [rg20.a (by decide)]) (by rw [rg20.a (by decide)]) (by rw [rg20.a (by decide)]))
          · skip
            intro y41 g42 rg42 qg42 g48 eg48
            refine ⟨fun g' => RSq t P e (zbd (zbd (.inl (i + 1)) (nNa t (tkL t d))) (nOw t 15)) g', ?_, ?_⟩
            · skip
              have T0 : s0 387 = T := hT
              have L0 : s0 386 2 = (L : Int) := hL
              have T1 : g20 387 = T := (rg20.a (by decide)).trans T0
              have L1 : g20 386 2 = (L : Int) := (rg20.s (by decide)).trans L0
              have ha : AH T L (s0 386 5).toNat g20 := by
                have q : AH (s0 387) (s0 386 2).toNat (s0 386 5).toNat g20 := qg20
                rw [hT, hL] at q
                exact q
              have R1 : RSq t P e (.inl (i + 1)) g20 := rs_next (F := fun k => .inl (k + 1)) tk A hi (by omega) (by omega) rfl ha
              have T2 : g42 387 = T := (rg42.a (by decide)).trans T1
              have L2 : g42 386 2 = (L : Int) := (rg42.s (by decide)).trans L1
              have RV2 : RSq t P e (zbd (.inl (i + 1)) (nNa t (tkL t d))) g42 ∧ _ := qg42
              have R2 := RV2.1
              have T3 : g48 387 = T := by rw [eg48, zup_na (by decide), T2]
              have L3 : g48 386 2 = (L : Int) := by rw [eg48, zup_ne (Or.inl (by decide)), L2]
              have R3 : RSq t P e (zbd (.inl (i + 1)) (nNa t (tkL t d))) g48 := by
                rw [eg48]
                exact RSq_st R2 (by decide)
              exact w_2321 (w := 15) tk T3 L3 R3 (OW_w (by decide) rfl)
            · skip
              intro g54 rg54 qg54
              refine ⟨fun v g' => RSq t P e (zbd (zbd (zbd (.inl (i + 1)) (nNa t (tkL t d))) (nOw t 15)) (nNu t 1 999)) g' ∧ ∀ i' j, (zbd (zbd (.inl (i + 1)) (nNa t (tkL t d))) (nOw t 15) : zP) = .inl i' → nNu t 1 999 i' = .inl j → v = t.2.1 i', ?_, ?_⟩
              · skip
                have T0 : s0 387 = T := hT
                have L0 : s0 386 2 = (L : Int) := hL
                have T1 : g20 387 = T := (rg20.a (by decide)).trans T0
                have L1 : g20 386 2 = (L : Int) := (rg20.s (by decide)).trans L0
                have ha : AH T L (s0 386 5).toNat g20 := by
                  have q : AH (s0 387) (s0 386 2).toNat (s0 386 5).toNat g20 := qg20
                  rw [hT, hL] at q
                  exact q
                have R1 : RSq t P e (.inl (i + 1)) g20 := rs_next (F := fun k => .inl (k + 1)) tk A hi (by omega) (by omega) rfl ha
                have T2 : g42 387 = T := (rg42.a (by decide)).trans T1
                have L2 : g42 386 2 = (L : Int) := (rg42.s (by decide)).trans L1
                have RV2 : RSq t P e (zbd (.inl (i + 1)) (nNa t (tkL t d))) g42 ∧ _ := qg42
                have R2 := RV2.1
                have T3 : g48 387 = T := by rw [eg48, zup_na (by decide), T2]
                have L3 : g48 386 2 = (L : Int) := by rw [eg48, zup_ne (Or.inl (by decide)), L2]
                have R3 : RSq t P e (zbd (.inl (i + 1)) (nNa t (tkL t d))) g48 := by
                  rw [eg48]
                  exact RSq_st R2 (by decide)
                have T4 : g54 387 = T := (rg54.a (by decide)).trans T3
                have L4 : g54 386 2 = (L : Int) := (rg54.s (by decide)).trans L3
                have R4 : RSq t P e (zbd (zbd (.inl (i + 1)) (nNa t (tkL t d))) (nOw t 15)) g54 := qg54
                exact w_2322 tk T4 L4 R4
              · skip
                intro x61 g64 rg64 qg64 g70 eg70
                refine ⟨fun g' => RSq t P e (zbd (zbd (zbd (zbd (.inl (i + 1)) (nNa t (tkL t d))) (nOw t 15)) (nNu t 1 999)) (nOw t 16)) g', ?_, ?_⟩
                · skip
                  have T0 : s0 387 = T := hT
                  have L0 : s0 386 2 = (L : Int) := hL
                  have T1 : g20 387 = T := (rg20.a (by decide)).trans T0
                  have L1 : g20 386 2 = (L : Int) := (rg20.s (by decide)).trans L0
                  have ha : AH T L (s0 386 5).toNat g20 := by
                    have q : AH (s0 387) (s0 386 2).toNat (s0 386 5).toNat g20 := qg20
                    rw [hT, hL] at q
                    exact q
                  have R1 : RSq t P e (.inl (i + 1)) g20 := rs_next (F := fun k => .inl (k + 1)) tk A hi (by omega) (by omega) rfl ha
                  have T2 : g42 387 = T := (rg42.a (by decide)).trans T1
                  have L2 : g42 386 2 = (L : Int) := (rg42.s (by decide)).trans L1
                  have RV2 : RSq t P e (zbd (.inl (i + 1)) (nNa t (tkL t d))) g42 ∧ _ := qg42
                  have R2 := RV2.1
                  have T3 : g48 387 = T := by rw [eg48, zup_na (by decide), T2]
                  have L3 : g48 386 2 = (L : Int) := by rw [eg48, zup_ne (Or.inl (by decide)), L2]
                  have R3 : RSq t P e (zbd (.inl (i + 1)) (nNa t (tkL t d))) g48 := by
                    rw [eg48]
                    exact RSq_st R2 (by decide)
                  have T4 : g54 387 = T := (rg54.a (by decide)).trans T3
                  have L4 : g54 386 2 = (L : Int) := (rg54.s (by decide)).trans L3
                  have R4 : RSq t P e (zbd (zbd (.inl (i + 1)) (nNa t (tkL t d))) (nOw t 15)) g54 := qg54
                  have T5 : g64 387 = T := (rg64.a (by decide)).trans T4
                  have L5 : g64 386 2 = (L : Int) := (rg64.s (by decide)).trans L4
                  have RV5 : RSq t P e (zbd (zbd (zbd (.inl (i + 1)) (nNa t (tkL t d))) (nOw t 15)) (nNu t 1 999)) g64 ∧ _ := qg64
                  have R5 := RV5.1
                  have T6 : g70 387 = T := by rw [eg70, zup_na (by decide), T5]
                  have L6 : g70 386 2 = (L : Int) := by rw [eg70, zup_ne (Or.inl (by decide)), L5]
                  have R6 : RSq t P e (zbd (zbd (zbd (.inl (i + 1)) (nNa t (tkL t d))) (nOw t 15)) (nNu t 1 999)) g70 := by
                    rw [eg70]
                    exact RSq_st R5 (by decide)
                  exact w_2321 (w := 16) tk T6 L6 R6 (OW_w (by decide) rfl)
                · skip
                  intro g76 rg76 qg76
                  refine ⟨fun v g' => RSq t P e (zbd (zbd (zbd (zbd (zbd (.inl (i + 1)) (nNa t (tkL t d))) (nOw t 15)) (nNu t 1 999)) (nOw t 16)) (nNu t 1 60)) g' ∧ ∀ i' j, (zbd (zbd (zbd (zbd (.inl (i + 1)) (nNa t (tkL t d))) (nOw t 15)) (nNu t 1 999)) (nOw t 16) : zP) = .inl i' → nNu t 1 60 i' = .inl j → v = t.2.1 i', ?_, ?_⟩
                  · skip
                    have T0 : s0 387 = T := hT
                    have L0 : s0 386 2 = (L : Int) := hL
                    have T1 : g20 387 = T := (rg20.a (by decide)).trans T0
                    have L1 : g20 386 2 = (L : Int) := (rg20.s (by decide)).trans L0
                    have ha : AH T L (s0 386 5).toNat g20 := by
                      have q : AH (s0 387) (s0 386 2).toNat (s0 386 5).toNat g20 := qg20
                      rw [hT, hL] at q
                      exact q
                    have R1 : RSq t P e (.inl (i + 1)) g20 := rs_next (F := fun k => .inl (k + 1)) tk A hi (by omega) (by omega) rfl ha
                    have T2 : g42 387 = T := (rg42.a (by decide)).trans T1
                    have L2 : g42 386 2 = (L : Int) := (rg42.s (by decide)).trans L1
                    have RV2 : RSq t P e (zbd (.inl (i + 1)) (nNa t (tkL t d))) g42 ∧ _ := qg42
                    have R2 := RV2.1
                    have T3 : g48 387 = T := by rw [eg48, zup_na (by decide), T2]
                    have L3 : g48 386 2 = (L : Int) := by rw [eg48, zup_ne (Or.inl (by decide)), L2]
                    have R3 : RSq t P e (zbd (.inl (i + 1)) (nNa t (tkL t d))) g48 := by
                      rw [eg48]
                      exact RSq_st R2 (by decide)
                    have T4 : g54 387 = T := (rg54.a (by decide)).trans T3
                    have L4 : g54 386 2 = (L : Int) := (rg54.s (by decide)).trans L3
                    have R4 : RSq t P e (zbd (zbd (.inl (i + 1)) (nNa t (tkL t d))) (nOw t 15)) g54 := qg54
                    have T5 : g64 387 = T := (rg64.a (by decide)).trans T4
                    have L5 : g64 386 2 = (L : Int) := (rg64.s (by decide)).trans L4
                    have RV5 : RSq t P e (zbd (zbd (zbd (.inl (i + 1)) (nNa t (tkL t d))) (nOw t 15)) (nNu t 1 999)) g64 ∧ _ := qg64
                    have R5 := RV5.1
                    have T6 : g70 387 = T := by rw [eg70, zup_na (by decide), T5]
                    have L6 : g70 386 2 = (L : Int) := by rw [eg70, zup_ne (Or.inl (by decide)), L5]
                    have R6 : RSq t P e (zbd (zbd (zbd (.inl (i + 1)) (nNa t (tkL t d))) (nOw t 15)) (nNu t 1 999)) g70 := by
                      rw [eg70]
                      exact RSq_st R5 (by decide)
                    have T7 : g76 387 = T := (rg76.a (by decide)).trans T6
                    have L7 : g76 386 2 = (L : Int) := (rg76.s (by decide)).trans L6
                    have R7 : RSq t P e (zbd (zbd (zbd (zbd (.inl (i + 1)) (nNa t (tkL t d))) (nOw t 15)) (nNu t 1 999)) (nOw t 16)) g76 := qg76
                    exact w_2322 tk T7 L7 R7
                  · skip
                    intro x83 g86 rg86 qg86 g92 eg92
                    refine ⟨fun g' => RSq t P e (zbd (zbd (zbd (zbd (zbd (zbd (.inl (i + 1)) (nNa t (tkL t d))) (nOw t 15)) (nNu t 1 999)) (nOw t 16)) (nNu t 1 60)) (nOw t 17)) g', ?_, ?_⟩
                    · skip
                      have T0 : s0 387 = T := hT
                      have L0 : s0 386 2 = (L : Int) := hL
                      have T1 : g20 387 = T := (rg20.a (by decide)).trans T0
                      have L1 : g20 386 2 = (L : Int) := (rg20.s (by decide)).trans L0
                      have ha : AH T L (s0 386 5).toNat g20 := by
                        have q : AH (s0 387) (s0 386 2).toNat (s0 386 5).toNat g20 := qg20
                        rw [hT, hL] at q
                        exact q
                      have R1 : RSq t P e (.inl (i + 1)) g20 := rs_next (F := fun k => .inl (k + 1)) tk A hi (by omega) (by omega) rfl ha
                      have T2 : g42 387 = T := (rg42.a (by decide)).trans T1
                      have L2 : g42 386 2 = (L : Int) := (rg42.s (by decide)).trans L1
                      have RV2 : RSq t P e (zbd (.inl (i + 1)) (nNa t (tkL t d))) g42 ∧ _ := qg42
                      have R2 := RV2.1
                      have T3 : g48 387 = T := by rw [eg48, zup_na (by decide), T2]
                      have L3 : g48 386 2 = (L : Int) := by rw [eg48, zup_ne (Or.inl (by decide)), L2]
                      have R3 : RSq t P e (zbd (.inl (i + 1)) (nNa t (tkL t d))) g48 := by
                        rw [eg48]
                        exact RSq_st R2 (by decide)
                      have T4 : g54 387 = T := (rg54.a (by decide)).trans T3
                      have L4 : g54 386 2 = (L : Int) := (rg54.s (by decide)).trans L3
                      have R4 : RSq t P e (zbd (zbd (.inl (i + 1)) (nNa t (tkL t d))) (nOw t 15)) g54 := qg54
                      have T5 : g64 387 = T := (rg64.a (by decide)).trans T4
                      have L5 : g64 386 2 = (L : Int) := (rg64.s (by decide)).trans L4
                      have RV5 : RSq t P e (zbd (zbd (zbd (.inl (i + 1)) (nNa t (tkL t d))) (nOw t 15)) (nNu t 1 999)) g64 ∧ _ := qg64
                      have R5 := RV5.1
                      have T6 : g70 387 = T := by rw [eg70, zup_na (by decide), T5]
                      have L6 : g70 386 2 = (L : Int) := by rw [eg70, zup_ne (Or.inl (by decide)), L5]
                      have R6 : RSq t P e (zbd (zbd (zbd (.inl (i + 1)) (nNa t (tkL t d))) (nOw t 15)) (nNu t 1 999)) g70 := by
                        rw [eg70]
                        exact RSq_st R5 (by decide)
                      have T7 : g76 387 = T := (rg76.a (by decide)).trans T6
                      have L7 : g76 386 2 = (L : Int) := (rg76.s (by decide)).trans L6
                      have R7 : RSq t P e (zbd (zbd (zbd (zbd (.inl (i + 1)) (nNa t (tkL t d))) (nOw t 15)) (nNu t 1 999)) (nOw t 16)) g76 := qg76
                      have T8 : g86 387 = T := (rg86.a (by decide)).trans T7
                      have L8 : g86 386 2 = (L : Int) := (rg86.s (by decide)).trans L7
                      have RV8 : RSq t P e (zbd (zbd (zbd (zbd (zbd (.inl (i + 1)) (nNa t (tkL t d))) (nOw t 15)) (nNu t 1 999)) (nOw t 16)) (nNu t 1 60)) g86 ∧ _ := qg86
                      have R8 := RV8.1
                      have T9 : g92 387 = T := by rw [eg92, zup_na (by decide), T8]
                      have L9 : g92 386 2 = (L : Int) := by rw [eg92, zup_ne (Or.inl (by decide)), L8]
                      have R9 : RSq t P e (zbd (zbd (zbd (zbd (zbd (.inl (i + 1)) (nNa t (tkL t d))) (nOw t 15)) (nNu t 1 999)) (nOw t 16)) (nNu t 1 60)) g92 := by
                        rw [eg92]
                        exact RSq_st R8 (by decide)
                      exact w_2321 (w := 17) tk T9 L9 R9 (OW_w (by decide) rfl)
                    · skip
                      intro g98 rg98 qg98
                      refine ⟨fun v g' => RSq t P e (zbd (zbd (zbd (zbd (zbd (zbd (zbd (.inl (i + 1)) (nNa t (tkL t d))) (nOw t 15)) (nNu t 1 999)) (nOw t 16)) (nNu t 1 60)) (nOw t 17)) (nNu t 1 999)) g' ∧ ∀ i' j, (zbd (zbd (zbd (zbd (zbd (zbd (.inl (i + 1)) (nNa t (tkL t d))) (nOw t 15)) (nNu t 1 999)) (nOw t 16)) (nNu t 1 60)) (nOw t 17) : zP) = .inl i' → nNu t 1 999 i' = .inl j → v = t.2.1 i', ?_, ?_⟩
                      · skip
                        have T0 : s0 387 = T := hT
                        have L0 : s0 386 2 = (L : Int) := hL
                        have T1 : g20 387 = T := (rg20.a (by decide)).trans T0
                        have L1 : g20 386 2 = (L : Int) := (rg20.s (by decide)).trans L0
                        have ha : AH T L (s0 386 5).toNat g20 := by
                          have q : AH (s0 387) (s0 386 2).toNat (s0 386 5).toNat g20 := qg20
                          rw [hT, hL] at q
                          exact q
                        have R1 : RSq t P e (.inl (i + 1)) g20 := rs_next (F := fun k => .inl (k + 1)) tk A hi (by omega) (by omega) rfl ha
                        have T2 : g42 387 = T := (rg42.a (by decide)).trans T1
                        have L2 : g42 386 2 = (L : Int) := (rg42.s (by decide)).trans L1
                        have RV2 : RSq t P e (zbd (.inl (i + 1)) (nNa t (tkL t d))) g42 ∧ _ := qg42
                        have R2 := RV2.1
                        have T3 : g48 387 = T := by rw [eg48, zup_na (by decide), T2]
                        have L3 : g48 386 2 = (L : Int) := by rw [eg48, zup_ne (Or.inl (by decide)), L2]
                        have R3 : RSq t P e (zbd (.inl (i + 1)) (nNa t (tkL t d))) g48 := by
                          rw [eg48]
                          exact RSq_st R2 (by decide)
                        have T4 : g54 387 = T := (rg54.a (by decide)).trans T3
                        have L4 : g54 386 2 = (L : Int) := (rg54.s (by decide)).trans L3
                        have R4 : RSq t P e (zbd (zbd (.inl (i + 1)) (nNa t (tkL t d))) (nOw t 15)) g54 := qg54
                        have T5 : g64 387 = T := (rg64.a (by decide)).trans T4
                        have L5 : g64 386 2 = (L : Int) := (rg64.s (by decide)).trans L4
                        have RV5 : RSq t P e (zbd (zbd (zbd (.inl (i + 1)) (nNa t (tkL t d))) (nOw t 15)) (nNu t 1 999)) g64 ∧ _ := qg64
                        have R5 := RV5.1
                        have T6 : g70 387 = T := by rw [eg70, zup_na (by decide), T5]
                        have L6 : g70 386 2 = (L : Int) := by rw [eg70, zup_ne (Or.inl (by decide)), L5]
                        have R6 : RSq t P e (zbd (zbd (zbd (.inl (i + 1)) (nNa t (tkL t d))) (nOw t 15)) (nNu t 1 999)) g70 := by
                          rw [eg70]
                          exact RSq_st R5 (by decide)
                        have T7 : g76 387 = T := (rg76.a (by decide)).trans T6
                        have L7 : g76 386 2 = (L : Int) := (rg76.s (by decide)).trans L6
                        have R7 : RSq t P e (zbd (zbd (zbd (zbd (.inl (i + 1)) (nNa t (tkL t d))) (nOw t 15)) (nNu t 1 999)) (nOw t 16)) g76 := qg76
                        have T8 : g86 387 = T := (rg86.a (by decide)).trans T7
                        have L8 : g86 386 2 = (L : Int) := (rg86.s (by decide)).trans L7
                        have RV8 : RSq t P e (zbd (zbd (zbd (zbd (zbd (.inl (i + 1)) (nNa t (tkL t d))) (nOw t 15)) (nNu t 1 999)) (nOw t 16)) (nNu t 1 60)) g86 ∧ _ := qg86
                        have R8 := RV8.1
                        have T9 : g92 387 = T := by rw [eg92, zup_na (by decide), T8]
                        have L9 : g92 386 2 = (L : Int) := by rw [eg92, zup_ne (Or.inl (by decide)), L8]
                        have R9 : RSq t P e (zbd (zbd (zbd (zbd (zbd (.inl (i + 1)) (nNa t (tkL t d))) (nOw t 15)) (nNu t 1 999)) (nOw t 16)) (nNu t 1 60)) g92 := by
                          rw [eg92]
                          exact RSq_st R8 (by decide)
                        have T10 : g98 387 = T := (rg98.a (by decide)).trans T9
                        have L10 : g98 386 2 = (L : Int) := (rg98.s (by decide)).trans L9
                        have R10 : RSq t P e (zbd (zbd (zbd (zbd (zbd (zbd (.inl (i + 1)) (nNa t (tkL t d))) (nOw t 15)) (nNu t 1 999)) (nOw t 16)) (nNu t 1 60)) (nOw t 17)) g98 := qg98
                        exact w_2322 tk T10 L10 R10
                      · skip
                        intro x105 g108 rg108 qg108 g114 eg114
                        refine ⟨fun g' => RSq t P e (zbd (zbd (zbd (zbd (zbd (zbd (zbd (zbd (.inl (i + 1)) (nNa t (tkL t d))) (nOw t 15)) (nNu t 1 999)) (nOw t 16)) (nNu t 1 60)) (nOw t 17)) (nNu t 1 999)) (nOw t 8)) g', ?_, ?_⟩
                        · skip
                          have T0 : s0 387 = T := hT
                          have L0 : s0 386 2 = (L : Int) := hL
                          have T1 : g20 387 = T := (rg20.a (by decide)).trans T0
                          have L1 : g20 386 2 = (L : Int) := (rg20.s (by decide)).trans L0
                          have ha : AH T L (s0 386 5).toNat g20 := by
                            have q : AH (s0 387) (s0 386 2).toNat (s0 386 5).toNat g20 := qg20
                            rw [hT, hL] at q
                            exact q
                          have R1 : RSq t P e (.inl (i + 1)) g20 := rs_next (F := fun k => .inl (k + 1)) tk A hi (by omega) (by omega) rfl ha
                          have T2 : g42 387 = T := (rg42.a (by decide)).trans T1
                          have L2 : g42 386 2 = (L : Int) := (rg42.s (by decide)).trans L1
                          have RV2 : RSq t P e (zbd (.inl (i + 1)) (nNa t (tkL t d))) g42 ∧ _ := qg42
                          have R2 := RV2.1
                          have T3 : g48 387 = T := by rw [eg48, zup_na (by decide), T2]
                          have L3 : g48 386 2 = (L : Int) := by rw [eg48, zup_ne (Or.inl (by decide)), L2]
                          have R3 : RSq t P e (zbd (.inl (i + 1)) (nNa t (tkL t d))) g48 := by
                            rw [eg48]
                            exact RSq_st R2 (by decide)
                          have T4 : g54 387 = T := (rg54.a (by decide)).trans T3
                          have L4 : g54 386 2 = (L : Int) := (rg54.s (by decide)).trans L3
                          have R4 : RSq t P e (zbd (zbd (.inl (i + 1)) (nNa t (tkL t d))) (nOw t 15)) g54 := qg54
                          have T5 : g64 387 = T := (rg64.a (by decide)).trans T4
                          have L5 : g64 386 2 = (L : Int) := (rg64.s (by decide)).trans L4
                          have RV5 : RSq t P e (zbd (zbd (zbd (.inl (i + 1)) (nNa t (tkL t d))) (nOw t 15)) (nNu t 1 999)) g64 ∧ _ := qg64
                          have R5 := RV5.1
                          have T6 : g70 387 = T := by rw [eg70, zup_na (by decide), T5]
                          have L6 : g70 386 2 = (L : Int) := by rw [eg70, zup_ne (Or.inl (by decide)), L5]
                          have R6 : RSq t P e (zbd (zbd (zbd (.inl (i + 1)) (nNa t (tkL t d))) (nOw t 15)) (nNu t 1 999)) g70 := by
                            rw [eg70]
                            exact RSq_st R5 (by decide)
                          have T7 : g76 387 = T := (rg76.a (by decide)).trans T6
                          have L7 : g76 386 2 = (L : Int) := (rg76.s (by decide)).trans L6
                          have R7 : RSq t P e (zbd (zbd (zbd (zbd (.inl (i + 1)) (nNa t (tkL t d))) (nOw t 15)) (nNu t 1 999)) (nOw t 16)) g76 := qg76
                          have T8 : g86 387 = T := (rg86.a (by decide)).trans T7
                          have L8 : g86 386 2 = (L : Int) := (rg86.s (by decide)).trans L7
                          have RV8 : RSq t P e (zbd (zbd (zbd (zbd (zbd (.inl (i + 1)) (nNa t (tkL t d))) (nOw t 15)) (nNu t 1 999)) (nOw t 16)) (nNu t 1 60)) g86 ∧ _ := qg86
                          have R8 := RV8.1
                          have T9 : g92 387 = T := by rw [eg92, zup_na (by decide), T8]
                          have L9 : g92 386 2 = (L : Int) := by rw [eg92, zup_ne (Or.inl (by decide)), L8]
                          have R9 : RSq t P e (zbd (zbd (zbd (zbd (zbd (.inl (i + 1)) (nNa t (tkL t d))) (nOw t 15)) (nNu t 1 999)) (nOw t 16)) (nNu t 1 60)) g92 := by
                            rw [eg92]
                            exact RSq_st R8 (by decide)
                          have T10 : g98 387 = T := (rg98.a (by decide)).trans T9
                          have L10 : g98 386 2 = (L : Int) := (rg98.s (by decide)).trans L9
                          have R10 : RSq t P e (zbd (zbd (zbd (zbd (zbd (zbd (.inl (i + 1)) (nNa t (tkL t d))) (nOw t 15)) (nNu t 1 999)) (nOw t 16)) (nNu t 1 60)) (nOw t 17)) g98 := qg98
                          have T11 : g108 387 = T := (rg108.a (by decide)).trans T10
                          have L11 : g108 386 2 = (L : Int) := (rg108.s (by decide)).trans L10
                          have RV11 : RSq t P e (zbd (zbd (zbd (zbd (zbd (zbd (zbd (.inl (i + 1)) (nNa t (tkL t d))) (nOw t 15)) (nNu t 1 999)) (nOw t 16)) (nNu t 1 60)) (nOw t 17)) (nNu t 1 999)) g108 ∧ _ := qg108
                          have R11 := RV11.1
                          have T12 : g114 387 = T := by rw [eg114, zup_na (by decide), T11]
                          have L12 : g114 386 2 = (L : Int) := by rw [eg114, zup_ne (Or.inl (by decide)), L11]
                          have R12 : RSq t P e (zbd (zbd (zbd (zbd (zbd (zbd (zbd (.inl (i + 1)) (nNa t (tkL t d))) (nOw t 15)) (nNu t 1 999)) (nOw t 16)) (nNu t 1 60)) (nOw t 17)) (nNu t 1 999)) g114 := by
                            rw [eg114]
                            exact RSq_st R11 (by decide)
                          exact w_2321 (w := 8) tk T12 L12 R12 (OW_w (by decide) rfl)
                        · skip
                          intro g120 rg120 qg120
                          refine ⟨fun v g' => RSq t P e (zbd (zbd (zbd (zbd (zbd (zbd (zbd (zbd (zbd (.inl (i + 1)) (nNa t (tkL t d))) (nOw t 15)) (nNu t 1 999)) (nOw t 16)) (nNu t 1 60)) (nOw t 17)) (nNu t 1 999)) (nOw t 8)) (nNu t 1 99)) g' ∧ ∀ i' j, (zbd (zbd (zbd (zbd (zbd (zbd (zbd (zbd (.inl (i + 1)) (nNa t (tkL t d))) (nOw t 15)) (nNu t 1 999)) (nOw t 16)) (nNu t 1 60)) (nOw t 17)) (nNu t 1 999)) (nOw t 8) : zP) = .inl i' → nNu t 1 99 i' = .inl j → v = t.2.1 i', ?_, ?_⟩
                          · skip
                            have T0 : s0 387 = T := hT
                            have L0 : s0 386 2 = (L : Int) := hL
                            have T1 : g20 387 = T := (rg20.a (by decide)).trans T0
                            have L1 : g20 386 2 = (L : Int) := (rg20.s (by decide)).trans L0
                            have ha : AH T L (s0 386 5).toNat g20 := by
                              have q : AH (s0 387) (s0 386 2).toNat (s0 386 5).toNat g20 := qg20
                              rw [hT, hL] at q
                              exact q
                            have R1 : RSq t P e (.inl (i + 1)) g20 := rs_next (F := fun k => .inl (k + 1)) tk A hi (by omega) (by omega) rfl ha
                            have T2 : g42 387 = T := (rg42.a (by decide)).trans T1
                            have L2 : g42 386 2 = (L : Int) := (rg42.s (by decide)).trans L1
                            have RV2 : RSq t P e (zbd (.inl (i + 1)) (nNa t (tkL t d))) g42 ∧ _ := qg42
                            have R2 := RV2.1
                            have T3 : g48 387 = T := by rw [eg48, zup_na (by decide), T2]
                            have L3 : g48 386 2 = (L : Int) := by rw [eg48, zup_ne (Or.inl (by decide)), L2]
                            have R3 : RSq t P e (zbd (.inl (i + 1)) (nNa t (tkL t d))) g48 := by
                              rw [eg48]
                              exact RSq_st R2 (by decide)
                            have T4 : g54 387 = T := (rg54.a (by decide)).trans T3
                            have L4 : g54 386 2 = (L : Int) := (rg54.s (by decide)).trans L3
                            have R4 : RSq t P e (zbd (zbd (.inl (i + 1)) (nNa t (tkL t d))) (nOw t 15)) g54 := qg54
                            have T5 : g64 387 = T := (rg64.a (by decide)).trans T4
                            have L5 : g64 386 2 = (L : Int) := (rg64.s (by decide)).trans L4
                            have RV5 : RSq t P e (zbd (zbd (zbd (.inl (i + 1)) (nNa t (tkL t d))) (nOw t 15)) (nNu t 1 999)) g64 ∧ _ := qg64
                            have R5 := RV5.1
                            have T6 : g70 387 = T := by rw [eg70, zup_na (by decide), T5]
                            have L6 : g70 386 2 = (L : Int) := by rw [eg70, zup_ne (Or.inl (by decide)), L5]
                            have R6 : RSq t P e (zbd (zbd (zbd (.inl (i + 1)) (nNa t (tkL t d))) (nOw t 15)) (nNu t 1 999)) g70 := by
                              rw [eg70]
                              exact RSq_st R5 (by decide)
                            have T7 : g76 387 = T := (rg76.a (by decide)).trans T6
                            have L7 : g76 386 2 = (L : Int) := (rg76.s (by decide)).trans L6
                            have R7 : RSq t P e (zbd (zbd (zbd (zbd (.inl (i + 1)) (nNa t (tkL t d))) (nOw t 15)) (nNu t 1 999)) (nOw t 16)) g76 := qg76
                            have T8 : g86 387 = T := (rg86.a (by decide)).trans T7
                            have L8 : g86 386 2 = (L : Int) := (rg86.s (by decide)).trans L7
                            have RV8 : RSq t P e (zbd (zbd (zbd (zbd (zbd (.inl (i + 1)) (nNa t (tkL t d))) (nOw t 15)) (nNu t 1 999)) (nOw t 16)) (nNu t 1 60)) g86 ∧ _ := qg86
                            have R8 := RV8.1
                            have T9 : g92 387 = T := by rw [eg92, zup_na (by decide), T8]
                            have L9 : g92 386 2 = (L : Int) := by rw [eg92, zup_ne (Or.inl (by decide)), L8]
                            have R9 : RSq t P e (zbd (zbd (zbd (zbd (zbd (.inl (i + 1)) (nNa t (tkL t d))) (nOw t 15)) (nNu t 1 999)) (nOw t 16)) (nNu t 1 60)) g92 := by
                              rw [eg92]
                              exact RSq_st R8 (by decide)
                            have T10 : g98 387 = T := (rg98.a (by decide)).trans T9
                            have L10 : g98 386 2 = (L : Int) := (rg98.s (by decide)).trans L9
                            have R10 : RSq t P e (zbd (zbd (zbd (zbd (zbd (zbd (.inl (i + 1)) (nNa t (tkL t d))) (nOw t 15)) (nNu t 1 999)) (nOw t 16)) (nNu t 1 60)) (nOw t 17)) g98 := qg98
                            have T11 : g108 387 = T := (rg108.a (by decide)).trans T10
                            have L11 : g108 386 2 = (L : Int) := (rg108.s (by decide)).trans L10
                            have RV11 : RSq t P e (zbd (zbd (zbd (zbd (zbd (zbd (zbd (.inl (i + 1)) (nNa t (tkL t d))) (nOw t 15)) (nNu t 1 999)) (nOw t 16)) (nNu t 1 60)) (nOw t 17)) (nNu t 1 999)) g108 ∧ _ := qg108
                            have R11 := RV11.1
                            have T12 : g114 387 = T := by rw [eg114, zup_na (by decide), T11]
                            have L12 : g114 386 2 = (L : Int) := by rw [eg114, zup_ne (Or.inl (by decide)), L11]
                            have R12 : RSq t P e (zbd (zbd (zbd (zbd (zbd (zbd (zbd (.inl (i + 1)) (nNa t (tkL t d))) (nOw t 15)) (nNu t 1 999)) (nOw t 16)) (nNu t 1 60)) (nOw t 17)) (nNu t 1 999)) g114 := by
                              rw [eg114]
                              exact RSq_st R11 (by decide)
                            have T13 : g120 387 = T := (rg120.a (by decide)).trans T12
                            have L13 : g120 386 2 = (L : Int) := (rg120.s (by decide)).trans L12
                            have R13 : RSq t P e (zbd (zbd (zbd (zbd (zbd (zbd (zbd (zbd (.inl (i + 1)) (nNa t (tkL t d))) (nOw t 15)) (nNu t 1 999)) (nOw t 16)) (nNu t 1 60)) (nOw t 17)) (nNu t 1 999)) (nOw t 8)) g120 := qg120
                            exact w_2322 tk T13 L13 R13
                          · skip
                            intro x127 g130 rg130 qg130 g136 eg136 x137 ex137 o44 o45
                            refine ⟨fun h46z => ?_, fun h46z => ?_⟩
                            · skip
                              obtain ⟨w, hw, h35, n1, n2, n3⟩ := D
                              have ew : x1.toNat = w := by omega
                              have e8 : x8 = ((dD d).length : Int) := by
                                rw [ex8, ew]
                                exact n2.1
                              have T0 : s0 387 = T := hT
                              have L0 : s0 386 2 = (L : Int) := hL
                              have T1 : g20 387 = T := (rg20.a (by decide)).trans T0
                              have L1 : g20 386 2 = (L : Int) := (rg20.s (by decide)).trans L0
                              have ha : AH T L (s0 386 5).toNat g20 := by
                                have q : AH (s0 387) (s0 386 2).toNat (s0 386 5).toNat g20 := qg20
                                rw [hT, hL] at q
                                exact q
                              have R1 : RSq t P e (.inl (i + 1)) g20 := rs_next (F := fun k => .inl (k + 1)) tk A hi (by omega) (by omega) rfl ha
                              have T2 : g42 387 = T := (rg42.a (by decide)).trans T1
                              have L2 : g42 386 2 = (L : Int) := (rg42.s (by decide)).trans L1
                              have RV2 : RSq t P e (zbd (.inl (i + 1)) (nNa t (tkL t d))) g42 ∧ _ := qg42
                              have R2 := RV2.1
                              have T3 : g48 387 = T := by rw [eg48, zup_na (by decide), T2]
                              have L3 : g48 386 2 = (L : Int) := by rw [eg48, zup_ne (Or.inl (by decide)), L2]
                              have R3 : RSq t P e (zbd (.inl (i + 1)) (nNa t (tkL t d))) g48 := by
                                rw [eg48]
                                exact RSq_st R2 (by decide)
                              have T4 : g54 387 = T := (rg54.a (by decide)).trans T3
                              have L4 : g54 386 2 = (L : Int) := (rg54.s (by decide)).trans L3
                              have R4 : RSq t P e (zbd (zbd (.inl (i + 1)) (nNa t (tkL t d))) (nOw t 15)) g54 := qg54
                              have T5 : g64 387 = T := (rg64.a (by decide)).trans T4
                              have L5 : g64 386 2 = (L : Int) := (rg64.s (by decide)).trans L4
                              have RV5 : RSq t P e (zbd (zbd (zbd (.inl (i + 1)) (nNa t (tkL t d))) (nOw t 15)) (nNu t 1 999)) g64 ∧ _ := qg64
                              have R5 := RV5.1
                              have T6 : g70 387 = T := by rw [eg70, zup_na (by decide), T5]
                              have L6 : g70 386 2 = (L : Int) := by rw [eg70, zup_ne (Or.inl (by decide)), L5]
                              have R6 : RSq t P e (zbd (zbd (zbd (.inl (i + 1)) (nNa t (tkL t d))) (nOw t 15)) (nNu t 1 999)) g70 := by
                                rw [eg70]
                                exact RSq_st R5 (by decide)
                              have T7 : g76 387 = T := (rg76.a (by decide)).trans T6
                              have L7 : g76 386 2 = (L : Int) := (rg76.s (by decide)).trans L6
                              have R7 : RSq t P e (zbd (zbd (zbd (zbd (.inl (i + 1)) (nNa t (tkL t d))) (nOw t 15)) (nNu t 1 999)) (nOw t 16)) g76 := qg76
                              have T8 : g86 387 = T := (rg86.a (by decide)).trans T7
                              have L8 : g86 386 2 = (L : Int) := (rg86.s (by decide)).trans L7
                              have RV8 : RSq t P e (zbd (zbd (zbd (zbd (zbd (.inl (i + 1)) (nNa t (tkL t d))) (nOw t 15)) (nNu t 1 999)) (nOw t 16)) (nNu t 1 60)) g86 ∧ _ := qg86
                              have R8 := RV8.1
                              have T9 : g92 387 = T := by rw [eg92, zup_na (by decide), T8]
                              have L9 : g92 386 2 = (L : Int) := by rw [eg92, zup_ne (Or.inl (by decide)), L8]
                              have R9 : RSq t P e (zbd (zbd (zbd (zbd (zbd (.inl (i + 1)) (nNa t (tkL t d))) (nOw t 15)) (nNu t 1 999)) (nOw t 16)) (nNu t 1 60)) g92 := by
                                rw [eg92]
                                exact RSq_st R8 (by decide)
                              have T10 : g98 387 = T := (rg98.a (by decide)).trans T9
                              have L10 : g98 386 2 = (L : Int) := (rg98.s (by decide)).trans L9
                              have R10 : RSq t P e (zbd (zbd (zbd (zbd (zbd (zbd (.inl (i + 1)) (nNa t (tkL t d))) (nOw t 15)) (nNu t 1 999)) (nOw t 16)) (nNu t 1 60)) (nOw t 17)) g98 := qg98
                              have T11 : g108 387 = T := (rg108.a (by decide)).trans T10
                              have L11 : g108 386 2 = (L : Int) := (rg108.s (by decide)).trans L10
                              have RV11 : RSq t P e (zbd (zbd (zbd (zbd (zbd (zbd (zbd (.inl (i + 1)) (nNa t (tkL t d))) (nOw t 15)) (nNu t 1 999)) (nOw t 16)) (nNu t 1 60)) (nOw t 17)) (nNu t 1 999)) g108 ∧ _ := qg108
                              have R11 := RV11.1
                              have T12 : g114 387 = T := by rw [eg114, zup_na (by decide), T11]
                              have L12 : g114 386 2 = (L : Int) := by rw [eg114, zup_ne (Or.inl (by decide)), L11]
                              have R12 : RSq t P e (zbd (zbd (zbd (zbd (zbd (zbd (zbd (.inl (i + 1)) (nNa t (tkL t d))) (nOw t 15)) (nNu t 1 999)) (nOw t 16)) (nNu t 1 60)) (nOw t 17)) (nNu t 1 999)) g114 := by
                                rw [eg114]
                                exact RSq_st R11 (by decide)
                              have T13 : g120 387 = T := (rg120.a (by decide)).trans T12
                              have L13 : g120 386 2 = (L : Int) := (rg120.s (by decide)).trans L12
                              have R13 : RSq t P e (zbd (zbd (zbd (zbd (zbd (zbd (zbd (zbd (.inl (i + 1)) (nNa t (tkL t d))) (nOw t 15)) (nNu t 1 999)) (nOw t 16)) (nNu t 1 60)) (nOw t 17)) (nNu t 1 999)) (nOw t 8)) g120 := qg120
                              have T14 : g130 387 = T := (rg130.a (by decide)).trans T13
                              have L14 : g130 386 2 = (L : Int) := (rg130.s (by decide)).trans L13
                              have RV14 : RSq t P e (zbd (zbd (zbd (zbd (zbd (zbd (zbd (zbd (zbd (.inl (i + 1)) (nNa t (tkL t d))) (nOw t 15)) (nNu t 1 999)) (nOw t 16)) (nNu t 1 60)) (nOw t 17)) (nNu t 1 999)) (nOw t 8)) (nNu t 1 99)) g130 ∧ _ := qg130
                              have R14 := RV14.1
                              have T15 : g136 387 = T := by rw [eg136, zup_na (by decide), T14]
                              have L15 : g136 386 2 = (L : Int) := by rw [eg136, zup_ne (Or.inl (by decide)), L14]
                              have R15 : RSq t P e (zbd (zbd (zbd (zbd (zbd (zbd (zbd (zbd (zbd (.inl (i + 1)) (nNa t (tkL t d))) (nOw t 15)) (nNu t 1 999)) (nOw t 16)) (nNu t 1 60)) (nOw t 17)) (nNu t 1 999)) (nOw t 8)) (nNu t 1 99)) g136 := by
                                rw [eg136]
                                exact RSq_st R14 (by decide)
                              refine ⟨⟨_, R15, ?_⟩, fun z => ?_, ⟨fun k hk => by rw [eg136, zup_ne (Or.inl (by decide)), rg130.a (a := 388) (by decide), rg120.a (a := 388) (by decide), eg114, zup_ne (Or.inl (by decide)), rg108.a (a := 388) (by decide), rg98.a (a := 388) (by decide), eg92, zup_ne (Or.inl (by decide)), rg86.a (a := 388) (by decide), rg76.a (a := 388) (by decide), eg70, zup_ne (Or.inl (by decide)), rg64.a (a := 388) (by decide), rg54.a (a := 388) (by decide), eg48, zup_ne (Or.inl (by decide)), rg42.a (a := 388) (by decide), rg20.a (a := 388) (by decide)], fun k hk => by rw [eg136, zup_ne (Or.inl (by decide)), rg130.a (a := 389) (by decide), rg120.a (a := 389) (by decide), eg114, zup_ne (Or.inl (by decide)), rg108.a (a := 389) (by decide), rg98.a (a := 389) (by decide), eg92, zup_ne (Or.inl (by decide)), rg86.a (a := 389) (by decide), rg76.a (a := 389) (by decide), eg70, zup_ne (Or.inl (by decide)), rg64.a (a := 389) (by decide), rg54.a (a := 389) (by decide), eg48, zup_ne (Or.inl (by decide)), rg42.a (a := 389) (by decide), rg20.a (a := 389) (by decide)], fun k hk => by rw [eg136, zup_ne (Or.inl (by decide)), rg130.a (a := 396) (by decide), rg120.a (a := 396) (by decide), eg114, zup_ne (Or.inl (by decide)), rg108.a (a := 396) (by decide), rg98.a (a := 396) (by decide), eg92, zup_ne (Or.inl (by decide)), rg86.a (a := 396) (by decide), rg76.a (a := 396) (by decide), eg70, zup_ne (Or.inl (by decide)), rg64.a (a := 396) (by decide), rg54.a (a := 396) (by decide), eg48, zup_ne (Or.inl (by decide)), rg42.a (a := 396) (by decide), rg20.a (a := 396) (by decide)], fun k hk => by rw [eg136, zup_ne (Or.inl (by decide)), rg130.a (a := 397) (by decide), rg120.a (a := 397) (by decide), eg114, zup_ne (Or.inl (by decide)), rg108.a (a := 397) (by decide), rg98.a (a := 397) (by decide), eg92, zup_ne (Or.inl (by decide)), rg86.a (a := 397) (by decide), rg76.a (a := 397) (by decide), eg70, zup_ne (Or.inl (by decide)), rg64.a (a := 397) (by decide), rg54.a (a := 397) (by decide), eg48, zup_ne (Or.inr (by omega)), rg42.a (a := 397) (by decide), rg20.a (a := 397) (by decide)]⟩⟩
                              · rw [stF_14 hk (by omega), ← dream_eq]
                              · exact absurd z (by omega)
                            · skip
                              intro x147 ex147 g153 eg153
                              obtain ⟨w, hw, h35, n1, n2, n3⟩ := D
                              have ew : x1.toNat = w := by omega
                              have e8 : x8 = ((dD d).length : Int) := by
                                rw [ex8, ew]
                                exact n2.1
                              have T0 : s0 387 = T := hT
                              have L0 : s0 386 2 = (L : Int) := hL
                              have T1 : g20 387 = T := (rg20.a (by decide)).trans T0
                              have L1 : g20 386 2 = (L : Int) := (rg20.s (by decide)).trans L0
                              have ha : AH T L (s0 386 5).toNat g20 := by
                                have q : AH (s0 387) (s0 386 2).toNat (s0 386 5).toNat g20 := qg20
                                rw [hT, hL] at q
                                exact q
                              have R1 : RSq t P e (.inl (i + 1)) g20 := rs_next (F := fun k => .inl (k + 1)) tk A hi (by omega) (by omega) rfl ha
                              have T2 : g42 387 = T := (rg42.a (by decide)).trans T1
                              have L2 : g42 386 2 = (L : Int) := (rg42.s (by decide)).trans L1
                              have RV2 : RSq t P e (zbd (.inl (i + 1)) (nNa t (tkL t d))) g42 ∧ _ := qg42
                              have R2 := RV2.1
                              have T3 : g48 387 = T := by rw [eg48, zup_na (by decide), T2]
                              have L3 : g48 386 2 = (L : Int) := by rw [eg48, zup_ne (Or.inl (by decide)), L2]
                              have R3 : RSq t P e (zbd (.inl (i + 1)) (nNa t (tkL t d))) g48 := by
                                rw [eg48]
                                exact RSq_st R2 (by decide)
                              have T4 : g54 387 = T := (rg54.a (by decide)).trans T3
                              have L4 : g54 386 2 = (L : Int) := (rg54.s (by decide)).trans L3
                              have R4 : RSq t P e (zbd (zbd (.inl (i + 1)) (nNa t (tkL t d))) (nOw t 15)) g54 := qg54
                              have T5 : g64 387 = T := (rg64.a (by decide)).trans T4
                              have L5 : g64 386 2 = (L : Int) := (rg64.s (by decide)).trans L4
                              have RV5 : RSq t P e (zbd (zbd (zbd (.inl (i + 1)) (nNa t (tkL t d))) (nOw t 15)) (nNu t 1 999)) g64 ∧ _ := qg64
                              have R5 := RV5.1
                              have T6 : g70 387 = T := by rw [eg70, zup_na (by decide), T5]
                              have L6 : g70 386 2 = (L : Int) := by rw [eg70, zup_ne (Or.inl (by decide)), L5]
                              have R6 : RSq t P e (zbd (zbd (zbd (.inl (i + 1)) (nNa t (tkL t d))) (nOw t 15)) (nNu t 1 999)) g70 := by
                                rw [eg70]
                                exact RSq_st R5 (by decide)
                              have T7 : g76 387 = T := (rg76.a (by decide)).trans T6
                              have L7 : g76 386 2 = (L : Int) := (rg76.s (by decide)).trans L6
                              have R7 : RSq t P e (zbd (zbd (zbd (zbd (.inl (i + 1)) (nNa t (tkL t d))) (nOw t 15)) (nNu t 1 999)) (nOw t 16)) g76 := qg76
                              have T8 : g86 387 = T := (rg86.a (by decide)).trans T7
                              have L8 : g86 386 2 = (L : Int) := (rg86.s (by decide)).trans L7
                              have RV8 : RSq t P e (zbd (zbd (zbd (zbd (zbd (.inl (i + 1)) (nNa t (tkL t d))) (nOw t 15)) (nNu t 1 999)) (nOw t 16)) (nNu t 1 60)) g86 ∧ _ := qg86
                              have R8 := RV8.1
                              have T9 : g92 387 = T := by rw [eg92, zup_na (by decide), T8]
                              have L9 : g92 386 2 = (L : Int) := by rw [eg92, zup_ne (Or.inl (by decide)), L8]
                              have R9 : RSq t P e (zbd (zbd (zbd (zbd (zbd (.inl (i + 1)) (nNa t (tkL t d))) (nOw t 15)) (nNu t 1 999)) (nOw t 16)) (nNu t 1 60)) g92 := by
                                rw [eg92]
                                exact RSq_st R8 (by decide)
                              have T10 : g98 387 = T := (rg98.a (by decide)).trans T9
                              have L10 : g98 386 2 = (L : Int) := (rg98.s (by decide)).trans L9
                              have R10 : RSq t P e (zbd (zbd (zbd (zbd (zbd (zbd (.inl (i + 1)) (nNa t (tkL t d))) (nOw t 15)) (nNu t 1 999)) (nOw t 16)) (nNu t 1 60)) (nOw t 17)) g98 := qg98
                              have T11 : g108 387 = T := (rg108.a (by decide)).trans T10
                              have L11 : g108 386 2 = (L : Int) := (rg108.s (by decide)).trans L10
                              have RV11 : RSq t P e (zbd (zbd (zbd (zbd (zbd (zbd (zbd (.inl (i + 1)) (nNa t (tkL t d))) (nOw t 15)) (nNu t 1 999)) (nOw t 16)) (nNu t 1 60)) (nOw t 17)) (nNu t 1 999)) g108 ∧ _ := qg108
                              have R11 := RV11.1
                              have T12 : g114 387 = T := by rw [eg114, zup_na (by decide), T11]
                              have L12 : g114 386 2 = (L : Int) := by rw [eg114, zup_ne (Or.inl (by decide)), L11]
                              have R12 : RSq t P e (zbd (zbd (zbd (zbd (zbd (zbd (zbd (.inl (i + 1)) (nNa t (tkL t d))) (nOw t 15)) (nNu t 1 999)) (nOw t 16)) (nNu t 1 60)) (nOw t 17)) (nNu t 1 999)) g114 := by
                                rw [eg114]
                                exact RSq_st R11 (by decide)
                              have T13 : g120 387 = T := (rg120.a (by decide)).trans T12
                              have L13 : g120 386 2 = (L : Int) := (rg120.s (by decide)).trans L12
                              have R13 : RSq t P e (zbd (zbd (zbd (zbd (zbd (zbd (zbd (zbd (.inl (i + 1)) (nNa t (tkL t d))) (nOw t 15)) (nNu t 1 999)) (nOw t 16)) (nNu t 1 60)) (nOw t 17)) (nNu t 1 999)) (nOw t 8)) g120 := qg120
                              have T14 : g130 387 = T := (rg130.a (by decide)).trans T13
                              have L14 : g130 386 2 = (L : Int) := (rg130.s (by decide)).trans L13
                              have RV14 : RSq t P e (zbd (zbd (zbd (zbd (zbd (zbd (zbd (zbd (zbd (.inl (i + 1)) (nNa t (tkL t d))) (nOw t 15)) (nNu t 1 999)) (nOw t 16)) (nNu t 1 60)) (nOw t 17)) (nNu t 1 999)) (nOw t 8)) (nNu t 1 99)) g130 ∧ _ := qg130
                              have R14 := RV14.1
                              have T15 : g136 387 = T := by rw [eg136, zup_na (by decide), T14]
                              have L15 : g136 386 2 = (L : Int) := by rw [eg136, zup_ne (Or.inl (by decide)), L14]
                              have R15 : RSq t P e (zbd (zbd (zbd (zbd (zbd (zbd (zbd (zbd (zbd (.inl (i + 1)) (nNa t (tkL t d))) (nOw t 15)) (nNu t 1 999)) (nOw t 16)) (nNu t 1 60)) (nOw t 17)) (nNu t 1 999)) (nOw t 8)) (nNu t 1 99)) g136 := by
                                rw [eg136]
                                exact RSq_st R14 (by decide)
                              have T16 : g153 387 = T := by rw [eg153, zup_na (by decide), T15]
                              have L16 : g153 386 2 = (L : Int) := by rw [eg153, zup_ne (Or.inl (by decide)), L15]
                              have R16 : RSq t P e (zbd (zbd (zbd (zbd (zbd (zbd (zbd (zbd (zbd (.inl (i + 1)) (nNa t (tkL t d))) (nOw t 15)) (nNu t 1 999)) (nOw t 16)) (nNu t 1 60)) (nOw t 17)) (nNu t 1 999)) (nOw t 8)) (nNu t 1 99)) g153 := by
                                rw [eg153]
                                exact RSq_st R15 (by decide)
                              refine ⟨⟨_, R16, ?_⟩, fun z => ?_, ⟨fun k hk => by rw [eg153, zup_ne (Or.inl (by decide)), eg136, zup_ne (Or.inl (by decide)), rg130.a (a := 388) (by decide), rg120.a (a := 388) (by decide), eg114, zup_ne (Or.inl (by decide)), rg108.a (a := 388) (by decide), rg98.a (a := 388) (by decide), eg92, zup_ne (Or.inl (by decide)), rg86.a (a := 388) (by decide), rg76.a (a := 388) (by decide), eg70, zup_ne (Or.inl (by decide)), rg64.a (a := 388) (by decide), rg54.a (a := 388) (by decide), eg48, zup_ne (Or.inl (by decide)), rg42.a (a := 388) (by decide), rg20.a (a := 388) (by decide)], fun k hk => by rw [eg153, zup_ne (Or.inl (by decide)), eg136, zup_ne (Or.inl (by decide)), rg130.a (a := 389) (by decide), rg120.a (a := 389) (by decide), eg114, zup_ne (Or.inl (by decide)), rg108.a (a := 389) (by decide), rg98.a (a := 389) (by decide), eg92, zup_ne (Or.inl (by decide)), rg86.a (a := 389) (by decide), rg76.a (a := 389) (by decide), eg70, zup_ne (Or.inl (by decide)), rg64.a (a := 389) (by decide), rg54.a (a := 389) (by decide), eg48, zup_ne (Or.inl (by decide)), rg42.a (a := 389) (by decide), rg20.a (a := 389) (by decide)], fun k hk => by rw [eg153, zup_ne (Or.inr (by omega)), eg136, zup_ne (Or.inl (by decide)), rg130.a (a := 396) (by decide), rg120.a (a := 396) (by decide), eg114, zup_ne (Or.inl (by decide)), rg108.a (a := 396) (by decide), rg98.a (a := 396) (by decide), eg92, zup_ne (Or.inl (by decide)), rg86.a (a := 396) (by decide), rg76.a (a := 396) (by decide), eg70, zup_ne (Or.inl (by decide)), rg64.a (a := 396) (by decide), rg54.a (a := 396) (by decide), eg48, zup_ne (Or.inl (by decide)), rg42.a (a := 396) (by decide), rg20.a (a := 396) (by decide)], fun k hk => by rw [eg153, zup_ne (Or.inl (by decide)), eg136, zup_ne (Or.inl (by decide)), rg130.a (a := 397) (by decide), rg120.a (a := 397) (by decide), eg114, zup_ne (Or.inl (by decide)), rg108.a (a := 397) (by decide), rg98.a (a := 397) (by decide), eg92, zup_ne (Or.inl (by decide)), rg86.a (a := 397) (by decide), rg76.a (a := 397) (by decide), eg70, zup_ne (Or.inl (by decide)), rg64.a (a := 397) (by decide), rg54.a (a := 397) (by decide), eg48, zup_ne (Or.inr (by omega)), rg42.a (a := 397) (by decide), rg20.a (a := 397) (by decide)]⟩⟩
                              · rw [stF_14 hk (by omega), ← dream_eq]
                              · rw [stD_14 hk]
                                have ei : x34.toNat = 6 * w + x8.toNat := by omega
                                obtain ⟨kz, hz, -⟩ := rs_ok R16 (by omega)
                                obtain ⟨k0, hz, -⟩ := zbd_ok hz
                                obtain ⟨k1, hz, -⟩ := zbd_ok hz
                                obtain ⟨k2, hz, -⟩ := zbd_ok hz
                                obtain ⟨k3, hz, -⟩ := zbd_ok hz
                                obtain ⟨k4, hz, -⟩ := zbd_ok hz
                                obtain ⟨k5, hz, -⟩ := zbd_ok hz
                                obtain ⟨k6, hz, -⟩ := zbd_ok hz
                                obtain ⟨k7, hz, -⟩ := zbd_ok hz
                                have hn : nNa t (tkL t d) (i + 1) = .inl _ := hz
                                obtain ⟨v1, v2⟩ := RV2.2 (i + 1) _ rfl hn
                                have u35 : g153 386 35 = s0 386 35 := by rw [eg153, zup_ne (Or.inl (by decide)), eg136, zup_ne (Or.inl (by decide)), rg130.s (by decide), rg120.s (by decide), eg114, zup_ne (Or.inl (by decide)), rg108.s (by decide), rg98.s (by decide), eg92, zup_ne (Or.inl (by decide)), rg86.s (by decide), rg76.s (by decide), eg70, zup_ne (Or.inl (by decide)), rg64.s (by decide), rg54.s (by decide), eg48, zup_ne (Or.inl (by decide)), rg42.s (by decide), rg20.s (by decide)]
                                have u388 : g153 388 = s0 388 := by rw [eg153, zup_na (by decide), eg136, zup_na (by decide), rg130.a (by decide), rg120.a (by decide), eg114, zup_na (by decide), rg108.a (by decide), rg98.a (by decide), eg92, zup_na (by decide), rg86.a (by decide), rg76.a (by decide), eg70, zup_na (by decide), rg64.a (by decide), rg54.a (by decide), eg48, zup_na (by decide), rg42.a (by decide), rg20.a (by decide)]
                                have u389 : g153 389 = s0 389 := by rw [eg153, zup_na (by decide), eg136, zup_na (by decide), rg130.a (by decide), rg120.a (by decide), eg114, zup_na (by decide), rg108.a (by decide), rg98.a (by decide), eg92, zup_na (by decide), rg86.a (by decide), rg76.a (by decide), eg70, zup_na (by decide), rg64.a (by decide), rg54.a (by decide), eg48, zup_na (by decide), rg42.a (by decide), rg20.a (by decide)]
                                have u402 : g153 402 = s0 402 := by rw [eg153, zup_na (by decide), eg136, zup_na (by decide), rg130.a (by decide), rg120.a (by decide), eg114, zup_na (by decide), rg108.a (by decide), rg98.a (by decide), eg92, zup_na (by decide), rg86.a (by decide), rg76.a (by decide), eg70, zup_na (by decide), rg64.a (by decide), rg54.a (by decide), eg48, zup_na (by decide), rg42.a (by decide), rg20.a (by decide)]
                                have uc : g153 396 w = s0 396 w + 1 := by
                                  rw [eg153, ← ew, zup_eq, ← ex8]
                                  omega
                                have un : g153 397 = g48 397 := by rw [eg153, zup_na (by decide), eg136, zup_na (by decide), rg130.a (by decide), rg120.a (by decide), eg114, zup_na (by decide), rg108.a (by decide), rg98.a (by decide), eg92, zup_na (by decide), rg86.a (by decide), rg76.a (by decide), eg70, zup_na (by decide), rg64.a (by decide), rg54.a (by decide)]
                                have uv : g153 397 (6 * w + (s0 396 w).toNat) = y41 := by
                                  rw [un, ← ew, ← ex8, ew, ← ei, eg48, zup_eq]
                                have uo : ∀ k, k ≠ 6 * w + (s0 396 w).toNat → g153 397 k = s0 397 k := by
                                  intro k hk
                                  rw [← ew, ← ex8, ew, ← ei] at hk
                                  rw [un, eg48, zup_ne (Or.inr hk), rg42.a (by decide), rg20.a (by decide)]
                                exact ⟨w, hw, by omega, NLr_fr n1 (by rw [u388]) u389, NLr_s n2 uc (by rw [uv]; exact ⟨v1, v2⟩) uo, by rw [u402]; exact n3⟩
  · skip
    intro x154 ex154 o9 o10
    refine ⟨fun h11z => ?_, fun h11z => ?_⟩
    · skip
      exfalso
      omega
    · skip
      intro x159 ex159 o13 o14 g167 eg167 g172 eg172
      obtain ⟨w, hw, h35, n1, n2, n3⟩ := D
      have ew : x1.toNat = w := by omega
      have e8 : x8 = ((dD d).length : Int) := by
        rw [ex8, ew]
        exact n2.1
      have g8 : g172 386 8 = 5 := by
        rw [eg172, zup_ne (Or.inr (by decide)), eg167, zup_eq]
      have g9 : g172 386 9 = t.2.2 i := by
        rw [eg172, zup_eq]
        have := A.2.2.1
        omega
      refine ⟨⟨.inr (5, t.2.2 i), ⟨g8, g9, by show (0 : Int) < 5; decide⟩, ?_⟩, fun z => absurd z (by omega), ⟨fun k hk => by rw [eg172, zup_ne (Or.inl (by decide)), eg167, zup_ne (Or.inl (by decide))], fun k hk => by rw [eg172, zup_ne (Or.inl (by decide)), eg167, zup_ne (Or.inl (by decide))], fun k hk => by rw [eg172, zup_ne (Or.inl (by decide)), eg167, zup_ne (Or.inl (by decide))], fun k hk => by rw [eg172, zup_ne (Or.inl (by decide)), eg167, zup_ne (Or.inl (by decide))]⟩⟩
      rw [stF_14f hk (by omega)]
