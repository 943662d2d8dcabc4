/-! pure proofs (wip/safe/vcp.py) -/
set_option maxHeartbeats 4000000 in
theorem v_2327 {a0 : Int} {b0 i : Nat} {s0 : zF} (hd : DI b0 i s0) (hb : b0 ≠ i) (hb1 : b0 ≤ 1) (hi1 : i ≤ 1) (hk : s0 386 8 = 0) (h3 : 1 ≤ s0 386 3) (ha : 0 ≤ a0 ∧ a0 ≤ 1) : b_2327 s0 a0 (fun g => MP s0 g ∧ DI b0 i g) := by
  have hs := hd.1
  have hz := hs.sz
  have hin : s0 386 35 = i := hd.2.2.1
  unfold b_2327
  intro x1 ex1 fx1 gx1
  intro x8 ex8 fx8 gx8
  refine ⟨fun h9 => ?_, fun h9 => ?_⟩
  · skip
    intro x10 ex10 fx10 gx10
    refine ⟨fun h14 => ?_, fun h14 => ?_⟩
    · skip
      exfalso
      omega
    · skip
      refine ⟨fun g' => AP s0 g', ?_, ?_⟩
      · skip
        exact v_2310 (SG.ap hs)
      · skip
        intro g20 rg20 qg20
        intro x22 ex22 fx22 gx22
        refine ⟨fun h26 => ?_, fun h26 => ?_⟩
        · skip
          have mg20 : MP s0 g20 := AP.mp hs h3 qg20
          have F0 : zFr [(403, 404, 1000), (386, 387, 3), (386, 387, 4), (386, 387, 5), (386, 387, 6), (386, 387, 7), (386, 387, 8), (386, 387, 9)] s0 s0 := zFr_refl
          have F1 : zFr [(403, 404, 1000), (386, 387, 3), (386, 387, 4), (386, 387, 5), (386, 387, 6), (386, 387, 7), (386, 387, 8), (386, 387, 9)] s0 g20 := F0.trans (rg20.mono (by decide))
          have d1 : DI b0 i g20 := hd.fr mg20.wp F1 (by decide) (by decide) (by decide) (by decide) (by decide) (by decide) (by decide) (by decide) (by decide) (by decide)
          exact ⟨mg20, d1⟩
        · skip
          intro x28 ex28
          intro x34 ex34
          have oh36 : (0 ≤ a0 ∧ a0 ≤ 1) := by
            omega
          refine ⟨oh36, ?_⟩
          intro g41 eg41
          intro x42 ex42 fx42 gx42
          intro g50 eg50
          refine ⟨fun g' => RP g50 g', ?_, ?_⟩
          · skip
            have eX : x1.toNat = i := by omega
            have b7 : x8 ≤ 7 := by omega
            have b0L : 0 ≤ x8 := by omega
            have hkk : (x34.toNat : Int) = 8 * i + x8 := by omega
            have mg20 : MP s0 g20 := AP.mp hs h3 qg20
            have mg41 : MP s0 g41 := by
              rw [eg41]
              exact mg20.z (by decide) (by decide)
            have mg50 : MP s0 g50 := by
              rw [eg50]
              exact mg41.z (by decide) (by decide)
            have eL : s0 402 i = x8 := by
              rw [← eX]
              exact ex8.symm
            have F0 : zFr [(403, 404, 1000), (386, 387, 3), (386, 387, 4), (386, 387, 5), (386, 387, 6), (386, 387, 7), (386, 387, 8), (386, 387, 9)] s0 s0 := zFr_refl
            have F1 : zFr [(403, 404, 1000), (386, 387, 3), (386, 387, 4), (386, 387, 5), (386, 387, 6), (386, 387, 7), (386, 387, 8), (386, 387, 9)] s0 g20 := F0.trans (rg20.mono (by decide))
            have F2 : zFr [(403, 404, 1000), (386, 387, 3), (386, 387, 4), (386, 387, 5), (386, 387, 6), (386, 387, 7), (386, 387, 8), (386, 387, 9)] s0 g41 := by
              rw [eg41]
              exact zFr_za F1 (by decide)
            have d2 : DI b0 i g41 := hd.fr mg41.wp F2 (by decide) (by decide) (by decide) (by decide) (by decide) (by decide) (by decide) (by decide) (by decide) (by decide)
            have l2 : g41 402 i = x8 := by
              rw [congrFun (F2.a (a := 402) (by decide)) i]
              exact eL
            have d3 : DI b0 i g50 := by
              rw [eg50]
              exact d2.at (by decide) hb hb1 hi1 (by rw [l2]; exact b7) (by rw [l2]; exact b0L) (by rw [l2]; exact hkk)
            have l3 : g50 402 i = x8 := by
              rw [eg50, zup_na (by decide)]
              exact l2
            exact v_2328 d3.1 (by have := d3.2.2.1; omega) d3.2.2.2.1 d3.2.2.2.2.1
          · skip
            intro g56 rg56 qg56
            intro x58 ex58 fx58 gx58
            intro g66 eg66
            refine ⟨fun g' => MP g66 g', ?_, ?_⟩
            · skip
              have mg20 : MP s0 g20 := AP.mp hs h3 qg20
              have mg41 : MP s0 g41 := by
                rw [eg41]
                exact mg20.z (by decide) (by decide)
              have mg50 : MP s0 g50 := by
                rw [eg50]
                exact mg41.z (by decide) (by decide)
              have ng56 : RP g50 g56 := qg56
              have mg56 : MP s0 g56 := mg50.trans ⟨ng56.1, ng56.2.1⟩
              have mg66 : MP s0 g66 := by
                rw [eg66]
                exact mg56.z (by decide) (by decide)
              exact v_2321 mg66.1
            · skip
              intro g72 rg72 qg72
              refine ⟨fun g' => RP g72 g', ?_, ?_⟩
              · skip
                have eX : x1.toNat = i := by omega
                have b7 : x8 ≤ 7 := by omega
                have b0L : 0 ≤ x8 := by omega
                have hkk : (x34.toNat : Int) = 8 * i + x8 := by omega
                have mg20 : MP s0 g20 := AP.mp hs h3 qg20
                have mg41 : MP s0 g41 := by
                  rw [eg41]
                  exact mg20.z (by decide) (by decide)
                have mg50 : MP s0 g50 := by
                  rw [eg50]
                  exact mg41.z (by decide) (by decide)
                have ng56 : RP g50 g56 := qg56
                have mg56 : MP s0 g56 := mg50.trans ⟨ng56.1, ng56.2.1⟩
                have mg66 : MP s0 g66 := by
                  rw [eg66]
                  exact mg56.z (by decide) (by decide)
                have ng72 : MP g66 g72 := qg72
                have mg72 : MP s0 g72 := mg66.trans ng72.wp
                have eL : s0 402 i = x8 := by
                  rw [← eX]
                  exact ex8.symm
                have F0 : zFr [(403, 404, 1000), (386, 387, 3), (386, 387, 4), (386, 387, 5), (386, 387, 6), (386, 387, 7), (386, 387, 8), (386, 387, 9)] s0 s0 := zFr_refl
                have F1 : zFr [(403, 404, 1000), (386, 387, 3), (386, 387, 4), (386, 387, 5), (386, 387, 6), (386, 387, 7), (386, 387, 8), (386, 387, 9)] s0 g20 := F0.trans (rg20.mono (by decide))
                have F2 : zFr [(403, 404, 1000), (386, 387, 3), (386, 387, 4), (386, 387, 5), (386, 387, 6), (386, 387, 7), (386, 387, 8), (386, 387, 9)] s0 g41 := by
                  rw [eg41]
                  exact zFr_za F1 (by decide)
                have d2 : DI b0 i g41 := hd.fr mg41.wp F2 (by decide) (by decide) (by decide) (by decide) (by decide) (by decide) (by decide) (by decide) (by decide) (by decide)
                have l2 : g41 402 i = x8 := by
                  rw [congrFun (F2.a (a := 402) (by decide)) i]
                  exact eL
                have d3 : DI b0 i g50 := by
                  rw [eg50]
                  exact d2.at (by decide) hb hb1 hi1 (by rw [l2]; exact b7) (by rw [l2]; exact b0L) (by rw [l2]; exact hkk)
                have l3 : g50 402 i = x8 := by
                  rw [eg50, zup_na (by decide)]
                  exact l2
                have d4 : DI b0 i g56 := d3.reads hb hb1 hi1 ng56 rg56
                have l4 : g56 402 i = x8 := by
                  rw [congrFun (rg56.a (a := 402) (by decide)) i]
                  exact l3
                have d5 : DI b0 i g66 := by
                  rw [eg66]
                  exact d4.at (by decide) hb hb1 hi1 (by rw [l4]; exact b7) (by rw [l4]; exact b0L) (by rw [l4]; exact hkk)
                have l5 : g66 402 i = x8 := by
                  rw [eg66, zup_na (by decide)]
                  exact l4
                have d6 : DI b0 i g72 := d5.fr ng72.wp rg72 (by decide) (by decide) (by decide) (by decide) (by decide) (by decide) (by decide) (by decide) (by decide) (by decide)
                have l6 : g72 402 i = x8 := by
                  rw [congrFun (rg72.a (a := 402) (by decide)) i]
                  exact l5
                exact v_2328 d6.1 (by have := d6.2.2.1; omega) d6.2.2.2.1 d6.2.2.2.2.1
              · skip
                intro g79 rg79 qg79
                intro x81 ex81 fx81 gx81
                intro g89 eg89
                intro x90 ex90 fx90 gx90
                refine ⟨fun h94 => ?_, fun h94 => ?_⟩
                · skip
                  have eX : x1.toNat = i := by omega
                  have b7 : x8 ≤ 7 := by omega
                  have b0L : 0 ≤ x8 := by omega
                  have hkk : (x34.toNat : Int) = 8 * i + x8 := by omega
                  have mg20 : MP s0 g20 := AP.mp hs h3 qg20
                  have mg41 : MP s0 g41 := by
                    rw [eg41]
                    exact mg20.z (by decide) (by decide)
                  have mg50 : MP s0 g50 := by
                    rw [eg50]
                    exact mg41.z (by decide) (by decide)
                  have ng56 : RP g50 g56 := qg56
                  have mg56 : MP s0 g56 := mg50.trans ⟨ng56.1, ng56.2.1⟩
                  have mg66 : MP s0 g66 := by
                    rw [eg66]
                    exact mg56.z (by decide) (by decide)
                  have ng72 : MP g66 g72 := qg72
                  have mg72 : MP s0 g72 := mg66.trans ng72.wp
                  have ng79 : RP g72 g79 := qg79
                  have mg79 : MP s0 g79 := mg72.trans ⟨ng79.1, ng79.2.1⟩
                  have mg89 : MP s0 g89 := by
                    rw [eg89]
                    exact mg79.z (by decide) (by decide)
                  have eL : s0 402 i = x8 := by
                    rw [← eX]
                    exact ex8.symm
                  have F0 : zFr [(403, 404, 1000), (386, 387, 3), (386, 387, 4), (386, 387, 5), (386, 387, 6), (386, 387, 7), (386, 387, 8), (386, 387, 9)] s0 s0 := zFr_refl
                  have F1 : zFr [(403, 404, 1000), (386, 387, 3), (386, 387, 4), (386, 387, 5), (386, 387, 6), (386, 387, 7), (386, 387, 8), (386, 387, 9)] s0 g20 := F0.trans (rg20.mono (by decide))
                  have F2 : zFr [(403, 404, 1000), (386, 387, 3), (386, 387, 4), (386, 387, 5), (386, 387, 6), (386, 387, 7), (386, 387, 8), (386, 387, 9)] s0 g41 := by
                    rw [eg41]
                    exact zFr_za F1 (by decide)
                  have d2 : DI b0 i g41 := hd.fr mg41.wp F2 (by decide) (by decide) (by decide) (by decide) (by decide) (by decide) (by decide) (by decide) (by decide) (by decide)
                  have l2 : g41 402 i = x8 := by
                    rw [congrFun (F2.a (a := 402) (by decide)) i]
                    exact eL
                  have d3 : DI b0 i g50 := by
                    rw [eg50]
                    exact d2.at (by decide) hb hb1 hi1 (by rw [l2]; exact b7) (by rw [l2]; exact b0L) (by rw [l2]; exact hkk)
                  have l3 : g50 402 i = x8 := by
                    rw [eg50, zup_na (by decide)]
                    exact l2
                  have d4 : DI b0 i g56 := d3.reads hb hb1 hi1 ng56 rg56
                  have l4 : g56 402 i = x8 := by
                    rw [congrFun (rg56.a (a := 402) (by decide)) i]
                    exact l3
                  have d5 : DI b0 i g66 := by
                    rw [eg66]
                    exact d4.at (by decide) hb hb1 hi1 (by rw [l4]; exact b7) (by rw [l4]; exact b0L) (by rw [l4]; exact hkk)
                  have l5 : g66 402 i = x8 := by
                    rw [eg66, zup_na (by decide)]
                    exact l4
                  have d6 : DI b0 i g72 := d5.fr ng72.wp rg72 (by decide) (by decide) (by decide) (by decide) (by decide) (by decide) (by decide) (by decide) (by decide) (by decide)
                  have l6 : g72 402 i = x8 := by
                    rw [congrFun (rg72.a (a := 402) (by decide)) i]
                    exact l5
                  have d7 : DI b0 i g79 := d6.reads hb hb1 hi1 ng79 rg79
                  have l7 : g79 402 i = x8 := by
                    rw [congrFun (rg79.a (a := 402) (by decide)) i]
                    exact l6
                  have d8 : DI b0 i g89 := by
                    rw [eg89]
                    exact d7.at (by decide) hb hb1 hi1 (by rw [l7]; exact b7) (by rw [l7]; exact b0L) (by rw [l7]; exact hkk)
                  have l8 : g89 402 i = x8 := by
                    rw [eg89, zup_na (by decide)]
                    exact l7
                  exact ⟨mg89, d8⟩
                · skip
                  intro x100 ex100
                  intro g106 eg106
                  have eX : x1.toNat = i := by omega
                  have b7 : x8 ≤ 7 := by omega
                  have b0L : 0 ≤ x8 := by omega
                  have hkk : (x34.toNat : Int) = 8 * i + x8 := by omega
                  have h8 : g89 386 8 = 0 := by omega
                  have eK : x34.toNat = 8 * i + x8.toNat := by omega
                  have hv9 : x100 = x8 + 1 := by omega
                  have mg20 : MP s0 g20 := AP.mp hs h3 qg20
                  have mg41 : MP s0 g41 := by
                    rw [eg41]
                    exact mg20.z (by decide) (by decide)
                  have mg50 : MP s0 g50 := by
                    rw [eg50]
                    exact mg41.z (by decide) (by decide)
                  have ng56 : RP g50 g56 := qg56
                  have mg56 : MP s0 g56 := mg50.trans ⟨ng56.1, ng56.2.1⟩
                  have mg66 : MP s0 g66 := by
                    rw [eg66]
                    exact mg56.z (by decide) (by decide)
                  have ng72 : MP g66 g72 := qg72
                  have mg72 : MP s0 g72 := mg66.trans ng72.wp
                  have ng79 : RP g72 g79 := qg79
                  have mg79 : MP s0 g79 := mg72.trans ⟨ng79.1, ng79.2.1⟩
                  have mg89 : MP s0 g89 := by
                    rw [eg89]
                    exact mg79.z (by decide) (by decide)
                  have mg106 : MP s0 g106 := by
                    rw [eg106]
                    exact mg89.z (by decide) (by decide)
                  have eL : s0 402 i = x8 := by
                    rw [← eX]
                    exact ex8.symm
                  have F0 : zFr [(403, 404, 1000), (386, 387, 3), (386, 387, 4), (386, 387, 5), (386, 387, 6), (386, 387, 7), (386, 387, 8), (386, 387, 9)] s0 s0 := zFr_refl
                  have F1 : zFr [(403, 404, 1000), (386, 387, 3), (386, 387, 4), (386, 387, 5), (386, 387, 6), (386, 387, 7), (386, 387, 8), (386, 387, 9)] s0 g20 := F0.trans (rg20.mono (by decide))
                  have F2 : zFr [(403, 404, 1000), (386, 387, 3), (386, 387, 4), (386, 387, 5), (386, 387, 6), (386, 387, 7), (386, 387, 8), (386, 387, 9)] s0 g41 := by
                    rw [eg41]
                    exact zFr_za F1 (by decide)
                  have d2 : DI b0 i g41 := hd.fr mg41.wp F2 (by decide) (by decide) (by decide) (by decide) (by decide) (by decide) (by decide) (by decide) (by decide) (by decide)
                  have l2 : g41 402 i = x8 := by
                    rw [congrFun (F2.a (a := 402) (by decide)) i]
                    exact eL
                  have d3 : DI b0 i g50 := by
                    rw [eg50]
                    exact d2.at (by decide) hb hb1 hi1 (by rw [l2]; exact b7) (by rw [l2]; exact b0L) (by rw [l2]; exact hkk)
                  have l3 : g50 402 i = x8 := by
                    rw [eg50, zup_na (by decide)]
                    exact l2
                  have d4 : DI b0 i g56 := d3.reads hb hb1 hi1 ng56 rg56
                  have l4 : g56 402 i = x8 := by
                    rw [congrFun (rg56.a (a := 402) (by decide)) i]
                    exact l3
                  have d5 : DI b0 i g66 := by
                    rw [eg66]
                    exact d4.at (by decide) hb hb1 hi1 (by rw [l4]; exact b7) (by rw [l4]; exact b0L) (by rw [l4]; exact hkk)
                  have l5 : g66 402 i = x8 := by
                    rw [eg66, zup_na (by decide)]
                    exact l4
                  have d6 : DI b0 i g72 := d5.fr ng72.wp rg72 (by decide) (by decide) (by decide) (by decide) (by decide) (by decide) (by decide) (by decide) (by decide) (by decide)
                  have l6 : g72 402 i = x8 := by
                    rw [congrFun (rg72.a (a := 402) (by decide)) i]
                    exact l5
                  have d7 : DI b0 i g79 := d6.reads hb hb1 hi1 ng79 rg79
                  have l7 : g79 402 i = x8 := by
                    rw [congrFun (rg79.a (a := 402) (by decide)) i]
                    exact l6
                  have d8 : DI b0 i g89 := by
                    rw [eg89]
                    exact d7.at (by decide) hb hb1 hi1 (by rw [l7]; exact b7) (by rw [l7]; exact b0L) (by rw [l7]; exact hkk)
                  have l8 : g89 402 i = x8 := by
                    rw [eg89, zup_na (by decide)]
                    exact l7
                  have h8a : g79 386 8 = 0 := by
                    rw [eg89] at h8
                    exact h8
                  have h8b : g72 386 8 = 0 := fk_0 d6.1 ng79.2.1 h8a
                  have h8c : g66 386 8 = 0 := fk_0 d5.1 ng72.2.1 h8b
                  have h8d : g56 386 8 = 0 := by
                    rw [eg66] at h8c
                    exact h8c
                  have w1 := ng56.2.2.2.2.2 h8d
                  have w2 := ng79.2.2.2.2.2 h8a
                  have f3 : g50 386 34 = x42 := by
                    rw [eg50]
                    exact ex42.symm
                  have f3i : g50 386 35 = i := d3.2.2.1
                  have f4 : g56 386 34 = x58 := ex58.symm
                  have f6 : g72 386 34 = x58 := by
                    rw [rg72.s (a := 386) (k := 34) (by decide), eg66]
                    exact f4
                  have f6i : g72 386 35 = i := d6.2.2.1
                  have f7 : g79 386 34 = x81 := ex81.symm
                  have f8 : g89 386 34 = x81 := by
                    rw [eg89]
                    exact f7
                  have j0 : 0 ≤ x42 := by
                    rw [← f3]
                    exact d3.2.2.2.1
                  have u1 : x42 ≤ x58 := by
                    rw [← f3, ← f4]
                    exact ng56.2.2.1
                  have u2 : x58 ≤ x81 := by
                    rw [← f6, ← f7]
                    exact ng79.2.2.1
                  have v4 : g89 404 (8 * i + x8.toNat) = x42 := by
                    rw [eg89, zup_na (by decide), congrFun (rg79.a (a := 404) (by decide)) _, congrFun (rg72.a (a := 404) (by decide)) _, eg66, zup_na (by decide), congrFun (rg56.a (a := 404) (by decide)) _, eg50, eK, zup_eq]
                  have v5 : g89 405 (8 * i + x8.toNat) = x58 := by
                    rw [eg89, zup_na (by decide), congrFun (rg79.a (a := 405) (by decide)) _, congrFun (rg72.a (a := 405) (by decide)) _, eg66, eK, zup_eq]
                  have v6 : g89 406 (8 * i + x8.toNat) = x81 := by
                    rw [eg89, eK, zup_eq]
                  have v7 : g89 407 = g79 407 := by
                    rw [eg89, zup_na (by decide)]
                  have v74 : ∀ p : Nat, ¬ (1600 * (i : Int) + x58 ≤ p ∧ (p : Int) < 1600 * i + 1600) → g79 407 p = g56 407 p := by
                    intro p hp
                    rw [ng79.2.2.2.2.1 p (by rw [f6, f6i]; exact hp), congrFun (rg72.a (a := 407) (by decide)) _, eg66, zup_na (by decide)]
                  rw [f3, f3i, f4] at w1
                  rw [f6, f6i, f7] at w2
                  refine ⟨mg106, ?_⟩
                  rw [eg106, eX]
                  exact T_lawend d8 hb l8 b7 b0L v4 v5 v6 f8 j0 u1 u2 (by rw [v7]; exact T_z1 j0 u1 w1 v74) (by rw [v7]; exact w2) hv9
  · skip
    intro x107 ex107 fx107 gx107
    refine ⟨fun h111 => ?_, fun h111 => ?_⟩
    · skip
      exfalso
      omega
    · skip
      intro x112 ex112 fx112 gx112
      intro g120 eg120
      intro g125 eg125
      have e2 : g125 = blF s0 5 x112 := by
        rw [eg125, eg120]
        rfl
      rw [e2]
      exact ⟨MP.bl hs hk (by decide) (by decide), hd.bl (by decide) (by decide)⟩
