/-! pure proofs (wip/safe/vcp.py) -/
set_option maxHeartbeats 4000000 in
theorem v_2316 {s0 : zF} (hs : SG s0) (hk : s0 386 8 = 0) (h3 : 1 ≤ s0 386 3) : b_2316 s0 (fun g => MP s0 g ∧ ∀ k, k ≠ (s0 386 35).toNat → g 388 k = s0 388 k) := by
  have hz := hs.sz
  unfold b_2316
  intro x1 ex1 fx1 gx1
  intro x8 ex8 fx8 gx8
  refine ⟨fun h9 => ?_, fun h9 => ?_⟩
  · skip
    intro x10 ex10 fx10 gx10
    refine ⟨fun h14 => ?_, fun h14 => ?_⟩
    · skip
      exfalso
      omega
    · skip
      refine ⟨fun g' => AP s0 g', ?_, ?_⟩
      · skip
        exact v_2310 (SG.ap hs)
      · skip
        intro g20 rg20 qg20
        intro x22 ex22 fx22 gx22
        refine ⟨fun h26 => ?_, fun h26 => ?_⟩
        · skip
          have mg20 : MP s0 g20 := AP.mp hs h3 qg20
          have F0 : zFr [(389, 395, 1000), (386, 387, 3), (386, 387, 4), (386, 387, 5), (386, 387, 6), (386, 387, 7), (386, 387, 8), (386, 387, 9)] s0 s0 := zFr_refl
          have F1 : zFr [(389, 395, 1000), (386, 387, 3), (386, 387, 4), (386, 387, 5), (386, 387, 6), (386, 387, 7), (386, 387, 8), (386, 387, 9)] s0 g20 := F0.trans (rg20.mono (by decide))
          exact ⟨mg20, fun k _ => congrFun (F1.a (by decide)) k⟩
        · skip
          intro x28 ex28
          intro x34 ex34
          refine ⟨fun _ g' => MP g20 g', ?_, ?_⟩
          · skip
            have mg20 : MP s0 g20 := AP.mp hs h3 qg20
            exact v_2318 mg20.1
          · skip
            intro y41 g42 rg42 qg42
            intro g48 eg48
            refine ⟨fun g' => MP g48 g', ?_, ?_⟩
            · skip
              have mg20 : MP s0 g20 := AP.mp hs h3 qg20
              have ng42 : MP g20 g42 := qg42
              have mg42 : MP s0 g42 := mg20.trans ng42.wp
              have mg48 : MP s0 g48 := by
                rw [eg48]
                exact mg42.z (by decide) (by decide)
              exact v_2321 mg48.1
            · skip
              intro g54 rg54 qg54
              refine ⟨fun v g' => MP g54 g' ∧ NBd (g' 386 8) 1 v 99, ?_, ?_⟩
              · skip
                have mg20 : MP s0 g20 := AP.mp hs h3 qg20
                have ng42 : MP g20 g42 := qg42
                have mg42 : MP s0 g42 := mg20.trans ng42.wp
                have mg48 : MP s0 g48 := by
                  rw [eg48]
                  exact mg42.z (by decide) (by decide)
                have ng54 : MP g48 g54 := qg54
                have mg54 : MP s0 g54 := mg48.trans ng54.wp
                exact v_2322 mg54.1
              · skip
                intro x61 g64 rg64 qg64
                intro g70 eg70
                refine ⟨fun g' => MP g70 g', ?_, ?_⟩
                · skip
                  have mg20 : MP s0 g20 := AP.mp hs h3 qg20
                  have ng42 : MP g20 g42 := qg42
                  have mg42 : MP s0 g42 := mg20.trans ng42.wp
                  have mg48 : MP s0 g48 := by
                    rw [eg48]
                    exact mg42.z (by decide) (by decide)
                  have ng54 : MP g48 g54 := qg54
                  have mg54 : MP s0 g54 := mg48.trans ng54.wp
                  have ng64 : MP g54 g64 ∧ _ := qg64
                  have mg64 : MP s0 g64 := mg54.trans ng64.1.wp
                  have mg70 : MP s0 g70 := by
                    rw [eg70]
                    exact mg64.z (by decide) (by decide)
                  exact v_2321 mg70.1
                · skip
                  intro g76 rg76 qg76
                  refine ⟨fun v g' => MP g76 g' ∧ NBd (g' 386 8) 1 v 999, ?_, ?_⟩
                  · skip
                    have mg20 : MP s0 g20 := AP.mp hs h3 qg20
                    have ng42 : MP g20 g42 := qg42
                    have mg42 : MP s0 g42 := mg20.trans ng42.wp
                    have mg48 : MP s0 g48 := by
                      rw [eg48]
                      exact mg42.z (by decide) (by decide)
                    have ng54 : MP g48 g54 := qg54
                    have mg54 : MP s0 g54 := mg48.trans ng54.wp
                    have ng64 : MP g54 g64 ∧ _ := qg64
                    have mg64 : MP s0 g64 := mg54.trans ng64.1.wp
                    have mg70 : MP s0 g70 := by
                      rw [eg70]
                      exact mg64.z (by decide) (by decide)
                    have ng76 : MP g70 g76 := qg76
                    have mg76 : MP s0 g76 := mg70.trans ng76.wp
                    exact v_2322 mg76.1
                  · skip
                    intro x83 g86 rg86 qg86
                    intro g92 eg92
                    refine ⟨fun g' => MP g92 g', ?_, ?_⟩
                    · skip
                      have mg20 : MP s0 g20 := AP.mp hs h3 qg20
                      have ng42 : MP g20 g42 := qg42
                      have mg42 : MP s0 g42 := mg20.trans ng42.wp
                      have mg48 : MP s0 g48 := by
                        rw [eg48]
                        exact mg42.z (by decide) (by decide)
                      have ng54 : MP g48 g54 := qg54
                      have mg54 : MP s0 g54 := mg48.trans ng54.wp
                      have ng64 : MP g54 g64 ∧ _ := qg64
                      have mg64 : MP s0 g64 := mg54.trans ng64.1.wp
                      have mg70 : MP s0 g70 := by
                        rw [eg70]
                        exact mg64.z (by decide) (by decide)
                      have ng76 : MP g70 g76 := qg76
                      have mg76 : MP s0 g76 := mg70.trans ng76.wp
                      have ng86 : MP g76 g86 ∧ _ := qg86
                      have mg86 : MP s0 g86 := mg76.trans ng86.1.wp
                      have mg92 : MP s0 g92 := by
                        rw [eg92]
                        exact mg86.z (by decide) (by decide)
                      exact v_2321 mg92.1
                    · skip
                      intro g98 rg98 qg98
                      refine ⟨fun v g' => MP g98 g' ∧ NBd (g' 386 8) 0 v 100, ?_, ?_⟩
                      · skip
                        have mg20 : MP s0 g20 := AP.mp hs h3 qg20
                        have ng42 : MP g20 g42 := qg42
                        have mg42 : MP s0 g42 := mg20.trans ng42.wp
                        have mg48 : MP s0 g48 := by
                          rw [eg48]
                          exact mg42.z (by decide) (by decide)
                        have ng54 : MP g48 g54 := qg54
                        have mg54 : MP s0 g54 := mg48.trans ng54.wp
                        have ng64 : MP g54 g64 ∧ _ := qg64
                        have mg64 : MP s0 g64 := mg54.trans ng64.1.wp
                        have mg70 : MP s0 g70 := by
                          rw [eg70]
                          exact mg64.z (by decide) (by decide)
                        have ng76 : MP g70 g76 := qg76
                        have mg76 : MP s0 g76 := mg70.trans ng76.wp
                        have ng86 : MP g76 g86 ∧ _ := qg86
                        have mg86 : MP s0 g86 := mg76.trans ng86.1.wp
                        have mg92 : MP s0 g92 := by
                          rw [eg92]
                          exact mg86.z (by decide) (by decide)
                        have ng98 : MP g92 g98 := qg98
                        have mg98 : MP s0 g98 := mg92.trans ng98.wp
                        exact v_2322 mg98.1
                      · skip
                        intro x105 g108 rg108 qg108
                        intro g114 eg114
                        refine ⟨fun g' => MP g114 g', ?_, ?_⟩
                        · skip
                          have mg20 : MP s0 g20 := AP.mp hs h3 qg20
                          have ng42 : MP g20 g42 := qg42
                          have mg42 : MP s0 g42 := mg20.trans ng42.wp
                          have mg48 : MP s0 g48 := by
                            rw [eg48]
                            exact mg42.z (by decide) (by decide)
                          have ng54 : MP g48 g54 := qg54
                          have mg54 : MP s0 g54 := mg48.trans ng54.wp
                          have ng64 : MP g54 g64 ∧ _ := qg64
                          have mg64 : MP s0 g64 := mg54.trans ng64.1.wp
                          have mg70 : MP s0 g70 := by
                            rw [eg70]
                            exact mg64.z (by decide) (by decide)
                          have ng76 : MP g70 g76 := qg76
                          have mg76 : MP s0 g76 := mg70.trans ng76.wp
                          have ng86 : MP g76 g86 ∧ _ := qg86
                          have mg86 : MP s0 g86 := mg76.trans ng86.1.wp
                          have mg92 : MP s0 g92 := by
                            rw [eg92]
                            exact mg86.z (by decide) (by decide)
                          have ng98 : MP g92 g98 := qg98
                          have mg98 : MP s0 g98 := mg92.trans ng98.wp
                          have ng108 : MP g98 g108 ∧ _ := qg108
                          have mg108 : MP s0 g108 := mg98.trans ng108.1.wp
                          have mg114 : MP s0 g114 := by
                            rw [eg114]
                            exact mg108.z (by decide) (by decide)
                          exact v_2321 mg114.1
                        · skip
                          intro g120 rg120 qg120
                          refine ⟨fun v g' => MP g120 g' ∧ NBd (g' 386 8) 0 v 99, ?_, ?_⟩
                          · skip
                            have mg20 : MP s0 g20 := AP.mp hs h3 qg20
                            have ng42 : MP g20 g42 := qg42
                            have mg42 : MP s0 g42 := mg20.trans ng42.wp
                            have mg48 : MP s0 g48 := by
                              rw [eg48]
                              exact mg42.z (by decide) (by decide)
                            have ng54 : MP g48 g54 := qg54
                            have mg54 : MP s0 g54 := mg48.trans ng54.wp
                            have ng64 : MP g54 g64 ∧ _ := qg64
                            have mg64 : MP s0 g64 := mg54.trans ng64.1.wp
                            have mg70 : MP s0 g70 := by
                              rw [eg70]
                              exact mg64.z (by decide) (by decide)
                            have ng76 : MP g70 g76 := qg76
                            have mg76 : MP s0 g76 := mg70.trans ng76.wp
                            have ng86 : MP g76 g86 ∧ _ := qg86
                            have mg86 : MP s0 g86 := mg76.trans ng86.1.wp
                            have mg92 : MP s0 g92 := by
                              rw [eg92]
                              exact mg86.z (by decide) (by decide)
                            have ng98 : MP g92 g98 := qg98
                            have mg98 : MP s0 g98 := mg92.trans ng98.wp
                            have ng108 : MP g98 g108 ∧ _ := qg108
                            have mg108 : MP s0 g108 := mg98.trans ng108.1.wp
                            have mg114 : MP s0 g114 := by
                              rw [eg114]
                              exact mg108.z (by decide) (by decide)
                            have ng120 : MP g114 g120 := qg120
                            have mg120 : MP s0 g120 := mg114.trans ng120.wp
                            exact v_2322 mg120.1
                          · skip
                            intro x127 g130 rg130 qg130
                            intro g136 eg136
                            refine ⟨fun g' => WP g136 g', ?_, ?_⟩
                            · skip
                              have mg20 : MP s0 g20 := AP.mp hs h3 qg20
                              have ng42 : MP g20 g42 := qg42
                              have mg42 : MP s0 g42 := mg20.trans ng42.wp
                              have mg48 : MP s0 g48 := by
                                rw [eg48]
                                exact mg42.z (by decide) (by decide)
                              have ng54 : MP g48 g54 := qg54
                              have mg54 : MP s0 g54 := mg48.trans ng54.wp
                              have ng64 : MP g54 g64 ∧ _ := qg64
                              have mg64 : MP s0 g64 := mg54.trans ng64.1.wp
                              have mg70 : MP s0 g70 := by
                                rw [eg70]
                                exact mg64.z (by decide) (by decide)
                              have ng76 : MP g70 g76 := qg76
                              have mg76 : MP s0 g76 := mg70.trans ng76.wp
                              have ng86 : MP g76 g86 ∧ _ := qg86
                              have mg86 : MP s0 g86 := mg76.trans ng86.1.wp
                              have mg92 : MP s0 g92 := by
                                rw [eg92]
                                exact mg86.z (by decide) (by decide)
                              have ng98 : MP g92 g98 := qg98
                              have mg98 : MP s0 g98 := mg92.trans ng98.wp
                              have ng108 : MP g98 g108 ∧ _ := qg108
                              have mg108 : MP s0 g108 := mg98.trans ng108.1.wp
                              have mg114 : MP s0 g114 := by
                                rw [eg114]
                                exact mg108.z (by decide) (by decide)
                              have ng120 : MP g114 g120 := qg120
                              have mg120 : MP s0 g120 := mg114.trans ng120.wp
                              have ng130 : MP g120 g130 ∧ _ := qg130
                              have mg130 : MP s0 g130 := mg120.trans ng130.1.wp
                              have mg136 : MP s0 g136 := by
                                rw [eg136]
                                exact mg130.z (by decide) (by decide)
                              exact v_2324 mg136.1 (by omega)
                            · skip
                              intro g142 rg142 qg142
                              intro x144 ex144 fx144 gx144
                              refine ⟨fun h148 => ?_, fun h148 => ?_⟩
                              · skip
                                have mg20 : MP s0 g20 := AP.mp hs h3 qg20
                                have ng42 : MP g20 g42 := qg42
                                have mg42 : MP s0 g42 := mg20.trans ng42.wp
                                have mg48 : MP s0 g48 := by
                                  rw [eg48]
                                  exact mg42.z (by decide) (by decide)
                                have ng54 : MP g48 g54 := qg54
                                have mg54 : MP s0 g54 := mg48.trans ng54.wp
                                have ng64 : MP g54 g64 ∧ _ := qg64
                                have mg64 : MP s0 g64 := mg54.trans ng64.1.wp
                                have mg70 : MP s0 g70 := by
                                  rw [eg70]
                                  exact mg64.z (by decide) (by decide)
                                have ng76 : MP g70 g76 := qg76
                                have mg76 : MP s0 g76 := mg70.trans ng76.wp
                                have ng86 : MP g76 g86 ∧ _ := qg86
                                have mg86 : MP s0 g86 := mg76.trans ng86.1.wp
                                have mg92 : MP s0 g92 := by
                                  rw [eg92]
                                  exact mg86.z (by decide) (by decide)
                                have ng98 : MP g92 g98 := qg98
                                have mg98 : MP s0 g98 := mg92.trans ng98.wp
                                have ng108 : MP g98 g108 ∧ _ := qg108
                                have mg108 : MP s0 g108 := mg98.trans ng108.1.wp
                                have mg114 : MP s0 g114 := by
                                  rw [eg114]
                                  exact mg108.z (by decide) (by decide)
                                have ng120 : MP g114 g120 := qg120
                                have mg120 : MP s0 g120 := mg114.trans ng120.wp
                                have ng130 : MP g120 g130 ∧ _ := qg130
                                have mg130 : MP s0 g130 := mg120.trans ng130.1.wp
                                have mg136 : MP s0 g136 := by
                                  rw [eg136]
                                  exact mg130.z (by decide) (by decide)
                                have ng142 : WP g136 g142 := qg142
                                have mg142 : MP s0 g142 := mg136.trans ng142
                                have F0 : zFr [(389, 395, 1000), (386, 387, 3), (386, 387, 4), (386, 387, 5), (386, 387, 6), (386, 387, 7), (386, 387, 8), (386, 387, 9)] s0 s0 := zFr_refl
                                have F1 : zFr [(389, 395, 1000), (386, 387, 3), (386, 387, 4), (386, 387, 5), (386, 387, 6), (386, 387, 7), (386, 387, 8), (386, 387, 9)] s0 g20 := F0.trans (rg20.mono (by decide))
                                have F2 : zFr [(389, 395, 1000), (386, 387, 3), (386, 387, 4), (386, 387, 5), (386, 387, 6), (386, 387, 7), (386, 387, 8), (386, 387, 9)] s0 g42 := F1.trans (rg42.mono (by decide))
                                have F3 : zFr [(389, 395, 1000), (386, 387, 3), (386, 387, 4), (386, 387, 5), (386, 387, 6), (386, 387, 7), (386, 387, 8), (386, 387, 9)] s0 g48 := by
                                  rw [eg48]
                                  exact zFr_za F2 (by decide)
                                have F4 : zFr [(389, 395, 1000), (386, 387, 3), (386, 387, 4), (386, 387, 5), (386, 387, 6), (386, 387, 7), (386, 387, 8), (386, 387, 9)] s0 g54 := F3.trans (rg54.mono (by decide))
                                have F5 : zFr [(389, 395, 1000), (386, 387, 3), (386, 387, 4), (386, 387, 5), (386, 387, 6), (386, 387, 7), (386, 387, 8), (386, 387, 9)] s0 g64 := F4.trans (rg64.mono (by decide))
                                have F6 : zFr [(389, 395, 1000), (386, 387, 3), (386, 387, 4), (386, 387, 5), (386, 387, 6), (386, 387, 7), (386, 387, 8), (386, 387, 9)] s0 g70 := by
                                  rw [eg70]
                                  exact zFr_za F5 (by decide)
                                have F7 : zFr [(389, 395, 1000), (386, 387, 3), (386, 387, 4), (386, 387, 5), (386, 387, 6), (386, 387, 7), (386, 387, 8), (386, 387, 9)] s0 g76 := F6.trans (rg76.mono (by decide))
                                have F8 : zFr [(389, 395, 1000), (386, 387, 3), (386, 387, 4), (386, 387, 5), (386, 387, 6), (386, 387, 7), (386, 387, 8), (386, 387, 9)] s0 g86 := F7.trans (rg86.mono (by decide))
                                have F9 : zFr [(389, 395, 1000), (386, 387, 3), (386, 387, 4), (386, 387, 5), (386, 387, 6), (386, 387, 7), (386, 387, 8), (386, 387, 9)] s0 g92 := by
                                  rw [eg92]
                                  exact zFr_za F8 (by decide)
                                have F10 : zFr [(389, 395, 1000), (386, 387, 3), (386, 387, 4), (386, 387, 5), (386, 387, 6), (386, 387, 7), (386, 387, 8), (386, 387, 9)] s0 g98 := F9.trans (rg98.mono (by decide))
                                have F11 : zFr [(389, 395, 1000), (386, 387, 3), (386, 387, 4), (386, 387, 5), (386, 387, 6), (386, 387, 7), (386, 387, 8), (386, 387, 9)] s0 g108 := F10.trans (rg108.mono (by decide))
                                have F12 : zFr [(389, 395, 1000), (386, 387, 3), (386, 387, 4), (386, 387, 5), (386, 387, 6), (386, 387, 7), (386, 387, 8), (386, 387, 9)] s0 g114 := by
                                  rw [eg114]
                                  exact zFr_za F11 (by decide)
                                have F13 : zFr [(389, 395, 1000), (386, 387, 3), (386, 387, 4), (386, 387, 5), (386, 387, 6), (386, 387, 7), (386, 387, 8), (386, 387, 9)] s0 g120 := F12.trans (rg120.mono (by decide))
                                have F14 : zFr [(389, 395, 1000), (386, 387, 3), (386, 387, 4), (386, 387, 5), (386, 387, 6), (386, 387, 7), (386, 387, 8), (386, 387, 9)] s0 g130 := F13.trans (rg130.mono (by decide))
                                have F15 : zFr [(389, 395, 1000), (386, 387, 3), (386, 387, 4), (386, 387, 5), (386, 387, 6), (386, 387, 7), (386, 387, 8), (386, 387, 9)] s0 g136 := by
                                  rw [eg136]
                                  exact zFr_za F14 (by decide)
                                have F16 : zFr [(389, 395, 1000), (386, 387, 3), (386, 387, 4), (386, 387, 5), (386, 387, 6), (386, 387, 7), (386, 387, 8), (386, 387, 9)] s0 g142 := F15.trans (rg142.mono (by decide))
                                exact ⟨mg142, fun k _ => congrFun (F16.a (by decide)) k⟩
                              · skip
                                intro x154 ex154
                                intro g160 eg160
                                have mg20 : MP s0 g20 := AP.mp hs h3 qg20
                                have ng42 : MP g20 g42 := qg42
                                have mg42 : MP s0 g42 := mg20.trans ng42.wp
                                have mg48 : MP s0 g48 := by
                                  rw [eg48]
                                  exact mg42.z (by decide) (by decide)
                                have ng54 : MP g48 g54 := qg54
                                have mg54 : MP s0 g54 := mg48.trans ng54.wp
                                have ng64 : MP g54 g64 ∧ _ := qg64
                                have mg64 : MP s0 g64 := mg54.trans ng64.1.wp
                                have mg70 : MP s0 g70 := by
                                  rw [eg70]
                                  exact mg64.z (by decide) (by decide)
                                have ng76 : MP g70 g76 := qg76
                                have mg76 : MP s0 g76 := mg70.trans ng76.wp
                                have ng86 : MP g76 g86 ∧ _ := qg86
                                have mg86 : MP s0 g86 := mg76.trans ng86.1.wp
                                have mg92 : MP s0 g92 := by
                                  rw [eg92]
                                  exact mg86.z (by decide) (by decide)
                                have ng98 : MP g92 g98 := qg98
                                have mg98 : MP s0 g98 := mg92.trans ng98.wp
                                have ng108 : MP g98 g108 ∧ _ := qg108
                                have mg108 : MP s0 g108 := mg98.trans ng108.1.wp
                                have mg114 : MP s0 g114 := by
                                  rw [eg114]
                                  exact mg108.z (by decide) (by decide)
                                have ng120 : MP g114 g120 := qg120
                                have mg120 : MP s0 g120 := mg114.trans ng120.wp
                                have ng130 : MP g120 g130 ∧ _ := qg130
                                have mg130 : MP s0 g130 := mg120.trans ng130.1.wp
                                have mg136 : MP s0 g136 := by
                                  rw [eg136]
                                  exact mg130.z (by decide) (by decide)
                                have ng142 : WP g136 g142 := qg142
                                have mg142 : MP s0 g142 := mg136.trans ng142
                                have mg160 : MP s0 g160 := by
                                  rw [eg160]
                                  exact mg142.z (by decide) (by decide)
                                have F0 : zFr [(389, 395, 1000), (386, 387, 3), (386, 387, 4), (386, 387, 5), (386, 387, 6), (386, 387, 7), (386, 387, 8), (386, 387, 9)] s0 s0 := zFr_refl
                                have F1 : zFr [(389, 395, 1000), (386, 387, 3), (386, 387, 4), (386, 387, 5), (386, 387, 6), (386, 387, 7), (386, 387, 8), (386, 387, 9)] s0 g20 := F0.trans (rg20.mono (by decide))
                                have F2 : zFr [(389, 395, 1000), (386, 387, 3), (386, 387, 4), (386, 387, 5), (386, 387, 6), (386, 387, 7), (386, 387, 8), (386, 387, 9)] s0 g42 := F1.trans (rg42.mono (by decide))
                                have F3 : zFr [(389, 395, 1000), (386, 387, 3), (386, 387, 4), (386, 387, 5), (386, 387, 6), (386, 387, 7), (386, 387, 8), (386, 387, 9)] s0 g48 := by
                                  rw [eg48]
                                  exact zFr_za F2 (by decide)
                                have F4 : zFr [(389, 395, 1000), (386, 387, 3), (386, 387, 4), (386, 387, 5), (386, 387, 6), (386, 387, 7), (386, 387, 8), (386, 387, 9)] s0 g54 := F3.trans (rg54.mono (by decide))
                                have F5 : zFr [(389, 395, 1000), (386, 387, 3), (386, 387, 4), (386, 387, 5), (386, 387, 6), (386, 387, 7), (386, 387, 8), (386, 387, 9)] s0 g64 := F4.trans (rg64.mono (by decide))
                                have F6 : zFr [(389, 395, 1000), (386, 387, 3), (386, 387, 4), (386, 387, 5), (386, 387, 6), (386, 387, 7), (386, 387, 8), (386, 387, 9)] s0 g70 := by
                                  rw [eg70]
                                  exact zFr_za F5 (by decide)
                                have F7 : zFr [(389, 395, 1000), (386, 387, 3), (386, 387, 4), (386, 387, 5), (386, 387, 6), (386, 387, 7), (386, 387, 8), (386, 387, 9)] s0 g76 := F6.trans (rg76.mono (by decide))
                                have F8 : zFr [(389, 395, 1000), (386, 387, 3), (386, 387, 4), (386, 387, 5), (386, 387, 6), (386, 387, 7), (386, 387, 8), (386, 387, 9)] s0 g86 := F7.trans (rg86.mono (by decide))
                                have F9 : zFr [(389, 395, 1000), (386, 387, 3), (386, 387, 4), (386, 387, 5), (386, 387, 6), (386, 387, 7), (386, 387, 8), (386, 387, 9)] s0 g92 := by
                                  rw [eg92]
                                  exact zFr_za F8 (by decide)
                                have F10 : zFr [(389, 395, 1000), (386, 387, 3), (386, 387, 4), (386, 387, 5), (386, 387, 6), (386, 387, 7), (386, 387, 8), (386, 387, 9)] s0 g98 := F9.trans (rg98.mono (by decide))
                                have F11 : zFr [(389, 395, 1000), (386, 387, 3), (386, 387, 4), (386, 387, 5), (386, 387, 6), (386, 387, 7), (386, 387, 8), (386, 387, 9)] s0 g108 := F10.trans (rg108.mono (by decide))
                                have F12 : zFr [(389, 395, 1000), (386, 387, 3), (386, 387, 4), (386, 387, 5), (386, 387, 6), (386, 387, 7), (386, 387, 8), (386, 387, 9)] s0 g114 := by
                                  rw [eg114]
                                  exact zFr_za F11 (by decide)
                                have F13 : zFr [(389, 395, 1000), (386, 387, 3), (386, 387, 4), (386, 387, 5), (386, 387, 6), (386, 387, 7), (386, 387, 8), (386, 387, 9)] s0 g120 := F12.trans (rg120.mono (by decide))
                                have F14 : zFr [(389, 395, 1000), (386, 387, 3), (386, 387, 4), (386, 387, 5), (386, 387, 6), (386, 387, 7), (386, 387, 8), (386, 387, 9)] s0 g130 := F13.trans (rg130.mono (by decide))
                                have F15 : zFr [(389, 395, 1000), (386, 387, 3), (386, 387, 4), (386, 387, 5), (386, 387, 6), (386, 387, 7), (386, 387, 8), (386, 387, 9)] s0 g136 := by
                                  rw [eg136]
                                  exact zFr_za F14 (by decide)
                                have F16 : zFr [(389, 395, 1000), (386, 387, 3), (386, 387, 4), (386, 387, 5), (386, 387, 6), (386, 387, 7), (386, 387, 8), (386, 387, 9)] s0 g142 := F15.trans (rg142.mono (by decide))
                                refine ⟨mg160, fun k hk2 => ?_⟩
                                rw [eg160, zup_ne (Or.inr ?_)]
                                · exact congrFun (F16.a (by decide)) k
                                · rw [show x1 = s0 386 35 by omega]
                                  exact hk2
  · skip
    intro x161 ex161 fx161 gx161
    refine ⟨fun h165 => ?_, fun h165 => ?_⟩
    · skip
      exfalso
      omega
    · skip
      intro x166 ex166 fx166 gx166
      intro g174 eg174
      intro g179 eg179
      have e2 : g179 = blF s0 5 x166 := by
        rw [eg179, eg174]
        rfl
      rw [e2]
      exact ⟨MP.bl hs hk (by decide) (by decide), fun k _ => rfl⟩
