/-! pure proofs (wip/safe/vcp.py) -/
set_option maxHeartbeats 4000000 in
theorem v_2340 {a0 : Int} {s0 : zF} (hs : SG s0) : b_2340 s0 a0 (fun g => MP s0 g) := by
  have hz := hs.sz
  unfold b_2340
  intro x1 ex1 fx1 gx1
  refine ⟨fun h5 => ?_, fun h5 => ?_⟩
  · skip
    intro x6 ex6 fx6 gx6
    intro x10 ex10 fx10 gx10
    refine ⟨fun h14 => ?_, fun h14 => ?_⟩
    · skip
      exact MP.stop hs (by omega)
    · skip
      intro g19 eg19
      intro g24 eg24
      have e2 : g24 = blF s0 1 x6 := by
        rw [eg24, eg19]
        rfl
      rw [e2]
      exact MP.bl hs (by omega) (by decide) (by decide)
  · skip
    intro x26 ex26
    refine ⟨fun h30 => ?_, fun h30 => ?_⟩
    · skip
      intro x31 ex31 fx31 gx31
      intro x35 ex35 fx35 gx35
      refine ⟨fun h39 => ?_, fun h39 => ?_⟩
      · skip
        exact MP.stop hs (by omega)
      · skip
        intro g44 eg44
        intro g49 eg49
        have e2 : g49 = blF s0 1 x31 := by
          rw [eg49, eg44]
          rfl
        rw [e2]
        exact MP.bl hs (by omega) (by decide) (by decide)
    · skip
      intro x51 ex51 fx51 gx51
      refine ⟨fun h55 => ?_, fun h55 => ?_⟩
      · skip
        exact MP.stop hs (by omega)
      · skip
        refine ⟨fun g' => AP s0 g', ?_, ?_⟩
        · skip
          exact v_2310 (SG.ap hs)
        · skip
          intro g61 rg61 qg61
          have a2 : AP s0 g61 := qg61
          exact AP.mp hs (by omega) a2
set_option maxHeartbeats 4000000 in
theorem v_2321 {a0 : Int} {s0 : zF} (hs : SG s0) : b_2321 s0 a0 (fun g => MP s0 g) := by
  have hz := hs.sz
  unfold b_2321
  intro x1 ex1 fx1 gx1
  refine ⟨fun h5 => ?_, fun h5 => ?_⟩
  · skip
    exact MP.stop hs (by omega)
  · skip
    intro x6 ex6 fx6 gx6
    refine ⟨fun h10 => ?_, fun h10 => ?_⟩
    · skip
      intro x11 ex11 fx11 gx11
      intro g19 eg19
      intro g24 eg24
      have e2 : g24 = blF s0 1 x11 := by
        rw [eg24, eg19]
        rfl
      rw [e2]
      exact MP.bl hs (by omega) (by decide) (by decide)
    · skip
      intro y29 ey29
      intro x30 ex30
      refine ⟨fun h32 => ?_, fun h32 => ?_⟩
      · skip
        intro x33 ex33 fx33 gx33
        intro g41 eg41
        intro g46 eg46
        have e2 : g46 = blF s0 1 x33 := by
          rw [eg46, eg41]
          rfl
        rw [e2]
        exact MP.bl hs (by omega) (by decide) (by decide)
      · skip
        refine ⟨fun g' => AP s0 g', ?_, ?_⟩
        · skip
          exact v_2310 (SG.ap hs)
        · skip
          intro g53 rg53 qg53
          have a2 : AP s0 g53 := qg53
          exact AP.mp hs (by omega) a2
set_option maxHeartbeats 4000000 in
theorem v_2322 {a0 a1 : Int} {s0 : zF} (hs : SG s0) : b_2322 s0 a0 a1 (fun v g => MP s0 g ∧ (g 386 8 = 0 → a0 ≤ v ∧ v ≤ a1)) := by
  have hz := hs.sz
  unfold b_2322
  intro x1 ex1 fx1 gx1
  refine ⟨fun h5 => ?_, fun h5 => ?_⟩
  · skip
    exact ⟨MP.stop hs (by omega), fun z => by omega⟩
  · skip
    intro x6 ex6 fx6 gx6
    refine ⟨fun h10 => ?_, fun h10 => ?_⟩
    · skip
      intro x11 ex11 fx11 gx11
      intro g19 eg19
      intro g24 eg24
      intro x26 ex26
      have e2 : g24 = blF s0 1 x11 := by
        rw [eg24, eg19]
        rfl
      rw [e2]
      exact ⟨MP.bl hs (by omega) (by decide) (by decide), fun z => absurd (show (1 : Int) = 0 from z) (by decide)⟩
    · skip
      intro x30 ex30
      refine ⟨fun h34 => ?_, fun h34 => ?_⟩
      · skip
        intro x35 ex35 fx35 gx35
        intro g43 eg43
        intro g48 eg48
        have e2 : g48 = blF s0 4 x35 := by
          rw [eg48, eg43]
          rfl
        rw [e2]
        exact ⟨MP.bl hs (by omega) (by decide) (by decide), fun z => absurd (show (4 : Int) = 0 from z) (by decide)⟩
      · skip
        refine ⟨fun h51 => ?_, fun h51 => ?_⟩
        · skip
          intro x52 ex52 fx52 gx52
          intro g60 eg60
          intro g65 eg65
          have e2 : g65 = blF s0 4 x52 := by
            rw [eg65, eg60]
            rfl
          rw [e2]
          exact ⟨MP.bl hs (by omega) (by decide) (by decide), fun z => absurd (show (4 : Int) = 0 from z) (by decide)⟩
        · skip
          refine ⟨fun g' => AP s0 g', ?_, ?_⟩
          · skip
            exact v_2310 (SG.ap hs)
          · skip
            intro g73 rg73 qg73
            have a2 : AP s0 g73 := qg73
            exact ⟨AP.mp hs (by omega) a2, fun _ => by omega⟩
set_option maxHeartbeats 4000000 in
theorem v_2318 {s0 : zF} (hs : SG s0) : b_2318 s0 (fun _ g => MP s0 g) := by
  have hz := hs.sz
  unfold b_2318
  intro x1 ex1 fx1 gx1
  refine ⟨fun h5 => ?_, fun h5 => ?_⟩
  · skip
    exact MP.stop hs (by omega)
  · skip
    intro x6 ex6 fx6 gx6
    refine ⟨fun h10 => ?_, fun h10 => ?_⟩
    · skip
      intro x11 ex11 fx11 gx11
      intro g19 eg19
      intro g24 eg24
      intro y29 ey29
      have e2 : g24 = blF s0 1 x11 := by
        rw [eg24, eg19]
        rfl
      rw [e2]
      exact MP.bl hs (by omega) (by decide) (by decide)
    · skip
      intro y33 ey33
      intro x37 hx371 hx372 g40 rg40 
      refine ⟨fun h42 => ?_, fun h42 => ?_⟩
      · skip
        intro x43 ex43 fx43 gx43
        intro g52 eg52
        intro g57 eg57
        have z1 : g40 = s0 := zFr_nil rg40
        have e2 : g57 = blF s0 1 x43 := by
          rw [eg57, eg52, z1]
          rfl
        rw [e2]
        exact MP.bl hs (by omega) (by decide) (by decide)
      · skip
        intro x65 hx651 hx652 g68 rg68 
        refine ⟨fun h70 => ?_, fun h70 => ?_⟩
        · skip
          intro x71 ex71 fx71 gx71
          intro g80 eg80
          intro g85 eg85
          have z1 : g40 = s0 := zFr_nil rg40
          have z2 : g68 = s0 := (zFr_nil rg68).trans z1
          have e2 : g85 = blF s0 2 x71 := by
            rw [eg85, eg80, z2]
            rfl
          rw [e2]
          exact MP.bl hs (by omega) (by decide) (by decide)
        · skip
          refine ⟨fun g' => AP g68 g', ?_, ?_⟩
          · skip
            have z1 : g40 = s0 := zFr_nil rg40
            have z2 : g68 = s0 := (zFr_nil rg68).trans z1
            rw [z2]
            exact v_2310 (SG.ap hs)
          · skip
            intro g95 rg95 qg95
            have z1 : g40 = s0 := zFr_nil rg40
            have z2 : g68 = s0 := (zFr_nil rg68).trans z1
            have a2 : AP g68 g95 := qg95
            rw [z2] at a2
            exact AP.mp hs (by omega) a2
set_option maxHeartbeats 4000000 in
theorem v_2324 {a0 : Int} {s0 : zF} (hs : SG s0) (ha : 0 ≤ a0 ∧ a0 ≤ 23) : b_2324 s0 a0 (fun g => WP s0 g) := by
  have hz := hs.sz
  refine ⟨fun n g v7_1 => n = (if g 386 8 = 0 then 2 * zMs g + 2 else 0).toNat ∧ WP s0 g ∧ v7_1 = a0, fun n g v67_1 v67_2 => n = (2 * zMs g + 1).toNat ∧ WP s0 g ∧ g 386 8 = 0 ∧ v67_1 = a0, ?_, ?_, ?_⟩
  · skip
    have oh120 : (0 ≤ a0 ∧ a0 ≤ 23) := by
      omega
    refine ⟨oh120, ?_⟩
    intro g125 eg125
    refine ⟨_, rfl, ?_, rfl⟩
    rw [eg125]
    exact (WP.refl hs).z (by decide) (by decide)
  · intro n g v7_1 rg qv7_10 qv7_11 hI
    obtain ⟨hn, m1, hv⟩ := hI
    have hz := m1.1.sz
    have hms := m1.1.ms
    intro x1 ex1 fx1 gx1
    refine ⟨fun h5 => ?_, fun h5 => ?_⟩
    · skip
      exact m1
    · skip
      intro x6 ex6 fx6 gx6
      refine ⟨fun h10 => ?_, fun h10 => ?_⟩
      · skip
        exact m1
      · skip
        intro y14 ey14
        intro x15 ex15
        refine ⟨fun h17 => ?_, fun h17 => ?_⟩
        · skip
          intro x18 ex18
          refine ⟨fun h20 => ?_, fun h20 => ?_⟩
          · skip
            refine ⟨_, ?_, rfl, m1, by omega, hv⟩
            rw [hn, if_pos (by omega)]
            omega
          · skip
            intro x24 ex24 fx24 gx24
            intro x25 ex25 fx25
            refine ⟨fun h28 => ?_, fun h28 => ?_⟩
            · skip
              refine ⟨_, ?_, rfl, m1, by omega, hv⟩
              rw [hn, if_pos (by omega)]
              omega
            · skip
              intro x32 ex32 fx32
              intro g39 eg39
              refine ⟨fun g' => AP g39 g', ?_, ?_⟩
              · skip
                rw [eg39]
                exact v_2310 (SG.ap ((zKSz (by decide) (by decide)).sg m1.1))
              · skip
                intro g46 rg46 qg46
                have w1 : WP g g39 := by
                  rw [eg39]
                  exact (WP.refl m1.1).z (by decide) (by decide)
                have a2 : AP g39 g46 := qg46
                have h3 : g39 386 3 = g 386 3 := by
                  rw [eg39]
                  rfl
                have eM : zMs g39 = zMs g := by
                  rw [eg39]
                  rfl
                have m2 : MP g39 g46 := AP.mp w1.1 (by omega) a2
                have m3 := m2.2.2
                have hm2 := m2.1.ms
                have hz2 := m2.1.sz
                refine ⟨_, ?_, rfl, m1.trans (w1.trans m2.wp), hv⟩
                rw [hn, if_pos (by omega : g 386 8 = 0)]
                split <;> omega
        · skip
          intro x51 ex51 fx51 gx51
          intro x52 ex52 fx52
          refine ⟨fun h55 => ?_, fun h55 => ?_⟩
          · skip
            refine ⟨_, ?_, rfl, m1, by omega, hv⟩
            rw [hn, if_pos (by omega)]
            omega
          · skip
            intro x59 ex59 fx59
            intro g66 eg66
            refine ⟨fun g' => AP g66 g', ?_, ?_⟩
            · skip
              rw [eg66]
              exact v_2310 (SG.ap ((zKSz (by decide) (by decide)).sg m1.1))
            · skip
              intro g73 rg73 qg73
              have w1 : WP g g66 := by
                rw [eg66]
                exact (WP.refl m1.1).z (by decide) (by decide)
              have a2 : AP g66 g73 := qg73
              have h3 : g66 386 3 = g 386 3 := by
                rw [eg66]
                rfl
              have eM : zMs g66 = zMs g := by
                rw [eg66]
                rfl
              have m2 : MP g66 g73 := AP.mp w1.1 (by omega) a2
              have m3 := m2.2.2
              have hm2 := m2.1.ms
              have hz2 := m2.1.sz
              refine ⟨_, ?_, rfl, m1.trans (w1.trans m2.wp), hv⟩
              rw [hn, if_pos (by omega : g 386 8 = 0)]
              split <;> omega
  · intro n g v67_1 v67_2 rg qv67_10 qv67_11 qv67_20 qv67_21 hI
    obtain ⟨hn, m1, hk, hv⟩ := hI
    have hz := m1.1.sz
    have hms := m1.1.ms
    intro x75 ex75 fx75 gx75
    intro x79 ex79 fx79 gx79
    refine ⟨fun h83 => ?_, fun h83 => ?_⟩
    · skip
      intro x87 ex87 fx87 gx87
      intro x88 ex88 fx88
      intro g95 eg95
      exfalso
      omega
    · skip
      intro g101 eg101
      intro g106 eg106
      intro x110 ex110 fx110 gx110
      intro x111 ex111 fx111
      intro g118 eg118
      have e2 : g106 = blF g 1 x75 := by
        rw [eg106, eg101]
        rfl
      have w2 : MP g g106 := by
        rw [e2]
        exact MP.bl m1.1 hk (by decide) (by decide)
      have h8 : g118 386 8 = 1 := by
        rw [eg118, e2]
        rfl
      refine ⟨_, ?_, rfl, ?_, hv⟩
      · rw [hn, if_neg (by omega)]
        omega
      · rw [eg118]
        exact (m1.trans w2.wp).z (by decide) (by decide)
set_option maxHeartbeats 4000000 in
theorem v_2316 {s0 : zF} (hs : SG s0) (hk : s0 386 8 = 0) (h3 : 1 ≤ s0 386 3) : b_2316 s0 (fun g => MP s0 g ∧ ∀ k, k ≠ (s0 386 35).toNat → g 388 k = s0 388 k) := by
  have hz := hs.sz
  unfold b_2316
  intro x1 ex1 fx1 gx1
  intro x8 ex8 fx8 gx8
  refine ⟨fun h9 => ?_, fun h9 => ?_⟩
  · skip
    intro x10 ex10 fx10 gx10
    refine ⟨fun h14 => ?_, fun h14 => ?_⟩
    · skip
      exfalso
      omega
    · skip
      refine ⟨fun g' => AP s0 g', ?_, ?_⟩
      · skip
        exact v_2310 (SG.ap hs)
      · skip
        intro g20 rg20 qg20
        intro x22 ex22 fx22 gx22
        refine ⟨fun h26 => ?_, fun h26 => ?_⟩
        · skip
          have mg20 : MP s0 g20 := AP.mp hs h3 qg20
          have F0 : zFr [(389, 395, 1000), (386, 387, 3), (386, 387, 4), (386, 387, 5), (386, 387, 6), (386, 387, 7), (386, 387, 8), (386, 387, 9)] s0 s0 := zFr_refl
          have F1 : zFr [(389, 395, 1000), (386, 387, 3), (386, 387, 4), (386, 387, 5), (386, 387, 6), (386, 387, 7), (386, 387, 8), (386, 387, 9)] s0 g20 := F0.trans (rg20.mono (by decide))
          exact ⟨mg20, fun k _ => congrFun (F1.a (by decide)) k⟩
        · skip
          intro x28 ex28
          intro x34 ex34
          refine ⟨fun _ g' => MP g20 g', ?_, ?_⟩
          · skip
            have mg20 : MP s0 g20 := AP.mp hs h3 qg20
            exact v_2318 mg20.1
          · skip
            intro y41 g42 rg42 qg42
            intro g48 eg48
            refine ⟨fun g' => MP g48 g', ?_, ?_⟩
            · skip
              have mg20 : MP s0 g20 := AP.mp hs h3 qg20
              have ng42 : MP g20 g42 := qg42
              have mg42 : MP s0 g42 := mg20.trans ng42.wp
              have mg48 : MP s0 g48 := by
                rw [eg48]
                exact mg42.z (by decide) (by decide)
              exact v_2321 mg48.1
            · skip
              intro g54 rg54 qg54
              refine ⟨fun v g' => MP g54 g' ∧ (g' 386 8 = 0 → 1 ≤ v ∧ v ≤ 99), ?_, ?_⟩
              · skip
                have mg20 : MP s0 g20 := AP.mp hs h3 qg20
                have ng42 : MP g20 g42 := qg42
                have mg42 : MP s0 g42 := mg20.trans ng42.wp
                have mg48 : MP s0 g48 := by
                  rw [eg48]
                  exact mg42.z (by decide) (by decide)
                have ng54 : MP g48 g54 := qg54
                have mg54 : MP s0 g54 := mg48.trans ng54.wp
                exact v_2322 mg54.1
              · skip
                intro x61 g64 rg64 qg64
                intro g70 eg70
                refine ⟨fun g' => MP g70 g', ?_, ?_⟩
                · skip
                  have mg20 : MP s0 g20 := AP.mp hs h3 qg20
                  have ng42 : MP g20 g42 := qg42
                  have mg42 : MP s0 g42 := mg20.trans ng42.wp
                  have mg48 : MP s0 g48 := by
                    rw [eg48]
                    exact mg42.z (by decide) (by decide)
                  have ng54 : MP g48 g54 := qg54
                  have mg54 : MP s0 g54 := mg48.trans ng54.wp
                  have ng64 : MP g54 g64 ∧ _ := qg64
                  have mg64 : MP s0 g64 := mg54.trans ng64.1.wp
                  have mg70 : MP s0 g70 := by
                    rw [eg70]
                    exact mg64.z (by decide) (by decide)
                  exact v_2321 mg70.1
                · skip
                  intro g76 rg76 qg76
                  refine ⟨fun v g' => MP g76 g' ∧ (g' 386 8 = 0 → 1 ≤ v ∧ v ≤ 999), ?_, ?_⟩
                  · skip
                    have mg20 : MP s0 g20 := AP.mp hs h3 qg20
                    have ng42 : MP g20 g42 := qg42
                    have mg42 : MP s0 g42 := mg20.trans ng42.wp
                    have mg48 : MP s0 g48 := by
                      rw [eg48]
                      exact mg42.z (by decide) (by decide)
                    have ng54 : MP g48 g54 := qg54
                    have mg54 : MP s0 g54 := mg48.trans ng54.wp
                    have ng64 : MP g54 g64 ∧ _ := qg64
                    have mg64 : MP s0 g64 := mg54.trans ng64.1.wp
                    have mg70 : MP s0 g70 := by
                      rw [eg70]
                      exact mg64.z (by decide) (by decide)
                    have ng76 : MP g70 g76 := qg76
                    have mg76 : MP s0 g76 := mg70.trans ng76.wp
                    exact v_2322 mg76.1
                  · skip
                    intro x83 g86 rg86 qg86
                    intro g92 eg92
                    refine ⟨fun g' => MP g92 g', ?_, ?_⟩
                    · skip
                      have mg20 : MP s0 g20 := AP.mp hs h3 qg20
                      have ng42 : MP g20 g42 := qg42
                      have mg42 : MP s0 g42 := mg20.trans ng42.wp
                      have mg48 : MP s0 g48 := by
                        rw [eg48]
                        exact mg42.z (by decide) (by decide)
                      have ng54 : MP g48 g54 := qg54
                      have mg54 : MP s0 g54 := mg48.trans ng54.wp
                      have ng64 : MP g54 g64 ∧ _ := qg64
                      have mg64 : MP s0 g64 := mg54.trans ng64.1.wp
                      have mg70 : MP s0 g70 := by
                        rw [eg70]
                        exact mg64.z (by decide) (by decide)
                      have ng76 : MP g70 g76 := qg76
                      have mg76 : MP s0 g76 := mg70.trans ng76.wp
                      have ng86 : MP g76 g86 ∧ _ := qg86
                      have mg86 : MP s0 g86 := mg76.trans ng86.1.wp
                      have mg92 : MP s0 g92 := by
                        rw [eg92]
                        exact mg86.z (by decide) (by decide)
                      exact v_2321 mg92.1
                    · skip
                      intro g98 rg98 qg98
                      refine ⟨fun v g' => MP g98 g' ∧ (g' 386 8 = 0 → 0 ≤ v ∧ v ≤ 100), ?_, ?_⟩
                      · skip
                        have mg20 : MP s0 g20 := AP.mp hs h3 qg20
                        have ng42 : MP g20 g42 := qg42
                        have mg42 : MP s0 g42 := mg20.trans ng42.wp
                        have mg48 : MP s0 g48 := by
                          rw [eg48]
                          exact mg42.z (by decide) (by decide)
                        have ng54 : MP g48 g54 := qg54
                        have mg54 : MP s0 g54 := mg48.trans ng54.wp
                        have ng64 : MP g54 g64 ∧ _ := qg64
                        have mg64 : MP s0 g64 := mg54.trans ng64.1.wp
                        have mg70 : MP s0 g70 := by
                          rw [eg70]
                          exact mg64.z (by decide) (by decide)
                        have ng76 : MP g70 g76 := qg76
                        have mg76 : MP s0 g76 := mg70.trans ng76.wp
                        have ng86 : MP g76 g86 ∧ _ := qg86
                        have mg86 : MP s0 g86 := mg76.trans ng86.1.wp
                        have mg92 : MP s0 g92 := by
                          rw [eg92]
                          exact mg86.z (by decide) (by decide)
                        have ng98 : MP g92 g98 := qg98
                        have mg98 : MP s0 g98 := mg92.trans ng98.wp
                        exact v_2322 mg98.1
                      · skip
                        intro x105 g108 rg108 qg108
                        intro g114 eg114
                        refine ⟨fun g' => MP g114 g', ?_, ?_⟩
                        · skip
                          have mg20 : MP s0 g20 := AP.mp hs h3 qg20
                          have ng42 : MP g20 g42 := qg42
                          have mg42 : MP s0 g42 := mg20.trans ng42.wp
                          have mg48 : MP s0 g48 := by
                            rw [eg48]
                            exact mg42.z (by decide) (by decide)
                          have ng54 : MP g48 g54 := qg54
                          have mg54 : MP s0 g54 := mg48.trans ng54.wp
                          have ng64 : MP g54 g64 ∧ _ := qg64
                          have mg64 : MP s0 g64 := mg54.trans ng64.1.wp
                          have mg70 : MP s0 g70 := by
                            rw [eg70]
                            exact mg64.z (by decide) (by decide)
                          have ng76 : MP g70 g76 := qg76
                          have mg76 : MP s0 g76 := mg70.trans ng76.wp
                          have ng86 : MP g76 g86 ∧ _ := qg86
                          have mg86 : MP s0 g86 := mg76.trans ng86.1.wp
                          have mg92 : MP s0 g92 := by
                            rw [eg92]
                            exact mg86.z (by decide) (by decide)
                          have ng98 : MP g92 g98 := qg98
                          have mg98 : MP s0 g98 := mg92.trans ng98.wp
                          have ng108 : MP g98 g108 ∧ _ := qg108
                          have mg108 : MP s0 g108 := mg98.trans ng108.1.wp
                          have mg114 : MP s0 g114 := by
                            rw [eg114]
                            exact mg108.z (by decide) (by decide)
                          exact v_2321 mg114.1
                        · skip
                          intro g120 rg120 qg120
                          refine ⟨fun v g' => MP g120 g' ∧ (g' 386 8 = 0 → 0 ≤ v ∧ v ≤ 99), ?_, ?_⟩
                          · skip
                            have mg20 : MP s0 g20 := AP.mp hs h3 qg20
                            have ng42 : MP g20 g42 := qg42
                            have mg42 : MP s0 g42 := mg20.trans ng42.wp
                            have mg48 : MP s0 g48 := by
                              rw [eg48]
                              exact mg42.z (by decide) (by decide)
                            have ng54 : MP g48 g54 := qg54
                            have mg54 : MP s0 g54 := mg48.trans ng54.wp
                            have ng64 : MP g54 g64 ∧ _ := qg64
                            have mg64 : MP s0 g64 := mg54.trans ng64.1.wp
                            have mg70 : MP s0 g70 := by
                              rw [eg70]
                              exact mg64.z (by decide) (by decide)
                            have ng76 : MP g70 g76 := qg76
                            have mg76 : MP s0 g76 := mg70.trans ng76.wp
                            have ng86 : MP g76 g86 ∧ _ := qg86
                            have mg86 : MP s0 g86 := mg76.trans ng86.1.wp
                            have mg92 : MP s0 g92 := by
                              rw [eg92]
                              exact mg86.z (by decide) (by decide)
                            have ng98 : MP g92 g98 := qg98
                            have mg98 : MP s0 g98 := mg92.trans ng98.wp
                            have ng108 : MP g98 g108 ∧ _ := qg108
                            have mg108 : MP s0 g108 := mg98.trans ng108.1.wp
                            have mg114 : MP s0 g114 := by
                              rw [eg114]
                              exact mg108.z (by decide) (by decide)
                            have ng120 : MP g114 g120 := qg120
                            have mg120 : MP s0 g120 := mg114.trans ng120.wp
                            exact v_2322 mg120.1
                          · skip
                            intro x127 g130 rg130 qg130
                            intro g136 eg136
                            refine ⟨fun g' => WP g136 g', ?_, ?_⟩
                            · skip
                              have mg20 : MP s0 g20 := AP.mp hs h3 qg20
                              have ng42 : MP g20 g42 := qg42
                              have mg42 : MP s0 g42 := mg20.trans ng42.wp
                              have mg48 : MP s0 g48 := by
                                rw [eg48]
                                exact mg42.z (by decide) (by decide)
                              have ng54 : MP g48 g54 := qg54
                              have mg54 : MP s0 g54 := mg48.trans ng54.wp
                              have ng64 : MP g54 g64 ∧ _ := qg64
                              have mg64 : MP s0 g64 := mg54.trans ng64.1.wp
                              have mg70 : MP s0 g70 := by
                                rw [eg70]
                                exact mg64.z (by decide) (by decide)
                              have ng76 : MP g70 g76 := qg76
                              have mg76 : MP s0 g76 := mg70.trans ng76.wp
                              have ng86 : MP g76 g86 ∧ _ := qg86
                              have mg86 : MP s0 g86 := mg76.trans ng86.1.wp
                              have mg92 : MP s0 g92 := by
                                rw [eg92]
                                exact mg86.z (by decide) (by decide)
                              have ng98 : MP g92 g98 := qg98
                              have mg98 : MP s0 g98 := mg92.trans ng98.wp
                              have ng108 : MP g98 g108 ∧ _ := qg108
                              have mg108 : MP s0 g108 := mg98.trans ng108.1.wp
                              have mg114 : MP s0 g114 := by
                                rw [eg114]
                                exact mg108.z (by decide) (by decide)
                              have ng120 : MP g114 g120 := qg120
                              have mg120 : MP s0 g120 := mg114.trans ng120.wp
                              have ng130 : MP g120 g130 ∧ _ := qg130
                              have mg130 : MP s0 g130 := mg120.trans ng130.1.wp
                              have mg136 : MP s0 g136 := by
                                rw [eg136]
                                exact mg130.z (by decide) (by decide)
                              exact v_2324 mg136.1 (by omega)
                            · skip
                              intro g142 rg142 qg142
                              intro x144 ex144 fx144 gx144
                              refine ⟨fun h148 => ?_, fun h148 => ?_⟩
                              · skip
                                have mg20 : MP s0 g20 := AP.mp hs h3 qg20
                                have ng42 : MP g20 g42 := qg42
                                have mg42 : MP s0 g42 := mg20.trans ng42.wp
                                have mg48 : MP s0 g48 := by
                                  rw [eg48]
                                  exact mg42.z (by decide) (by decide)
                                have ng54 : MP g48 g54 := qg54
                                have mg54 : MP s0 g54 := mg48.trans ng54.wp
                                have ng64 : MP g54 g64 ∧ _ := qg64
                                have mg64 : MP s0 g64 := mg54.trans ng64.1.wp
                                have mg70 : MP s0 g70 := by
                                  rw [eg70]
                                  exact mg64.z (by decide) (by decide)
                                have ng76 : MP g70 g76 := qg76
                                have mg76 : MP s0 g76 := mg70.trans ng76.wp
                                have ng86 : MP g76 g86 ∧ _ := qg86
                                have mg86 : MP s0 g86 := mg76.trans ng86.1.wp
                                have mg92 : MP s0 g92 := by
                                  rw [eg92]
                                  exact mg86.z (by decide) (by decide)
                                have ng98 : MP g92 g98 := qg98
                                have mg98 : MP s0 g98 := mg92.trans ng98.wp
                                have ng108 : MP g98 g108 ∧ _ := qg108
                                have mg108 : MP s0 g108 := mg98.trans ng108.1.wp
                                have mg114 : MP s0 g114 := by
                                  rw [eg114]
                                  exact mg108.z (by decide) (by decide)
                                have ng120 : MP g114 g120 := qg120
                                have mg120 : MP s0 g120 := mg114.trans ng120.wp
                                have ng130 : MP g120 g130 ∧ _ := qg130
                                have mg130 : MP s0 g130 := mg120.trans ng130.1.wp
                                have mg136 : MP s0 g136 := by
                                  rw [eg136]
                                  exact mg130.z (by decide) (by decide)
                                have ng142 : WP g136 g142 := qg142
                                have mg142 : MP s0 g142 := mg136.trans ng142
                                have F0 : zFr [(389, 395, 1000), (386, 387, 3), (386, 387, 4), (386, 387, 5), (386, 387, 6), (386, 387, 7), (386, 387, 8), (386, 387, 9)] s0 s0 := zFr_refl
                                have F1 : zFr [(389, 395, 1000), (386, 387, 3), (386, 387, 4), (386, 387, 5), (386, 387, 6), (386, 387, 7), (386, 387, 8), (386, 387, 9)] s0 g20 := F0.trans (rg20.mono (by decide))
                                have F2 : zFr [(389, 395, 1000), (386, 387, 3), (386, 387, 4), (386, 387, 5), (386, 387, 6), (386, 387, 7), (386, 387, 8), (386, 387, 9)] s0 g42 := F1.trans (rg42.mono (by decide))
                                have F3 : zFr [(389, 395, 1000), (386, 387, 3), (386, 387, 4), (386, 387, 5), (386, 387, 6), (386, 387, 7), (386, 387, 8), (386, 387, 9)] s0 g48 := by
                                  rw [eg48]
                                  exact zFr_za F2 (by decide)
                                have F4 : zFr [(389, 395, 1000), (386, 387, 3), (386, 387, 4), (386, 387, 5), (386, 387, 6), (386, 387, 7), (386, 387, 8), (386, 387, 9)] s0 g54 := F3.trans (rg54.mono (by decide))
                                have F5 : zFr [(389, 395, 1000), (386, 387, 3), (386, 387, 4), (386, 387, 5), (386, 387, 6), (386, 387, 7), (386, 387, 8), (386, 387, 9)] s0 g64 := F4.trans (rg64.mono (by decide))
                                have F6 : zFr [(389, 395, 1000), (386, 387, 3), (386, 387, 4), (386, 387, 5), (386, 387, 6), (386, 387, 7), (386, 387, 8), (386, 387, 9)] s0 g70 := by
                                  rw [eg70]
                                  exact zFr_za F5 (by decide)
                                have F7 : zFr [(389, 395, 1000), (386, 387, 3), (386, 387, 4), (386, 387, 5), (386, 387, 6), (386, 387, 7), (386, 387, 8), (386, 387, 9)] s0 g76 := F6.trans (rg76.mono (by decide))
                                have F8 : zFr [(389, 395, 1000), (386, 387, 3), (386, 387, 4), (386, 387, 5), (386, 387, 6), (386, 387, 7), (386, 387, 8), (386, 387, 9)] s0 g86 := F7.trans (rg86.mono (by decide))
                                have F9 : zFr [(389, 395, 1000), (386, 387, 3), (386, 387, 4), (386, 387, 5), (386, 387, 6), (386, 387, 7), (386, 387, 8), (386, 387, 9)] s0 g92 := by
                                  rw [eg92]
                                  exact zFr_za F8 (by decide)
                                have F10 : zFr [(389, 395, 1000), (386, 387, 3), (386, 387, 4), (386, 387, 5), (386, 387, 6), (386, 387, 7), (386, 387, 8), (386, 387, 9)] s0 g98 := F9.trans (rg98.mono (by decide))
                                have F11 : zFr [(389, 395, 1000), (386, 387, 3), (386, 387, 4), (386, 387, 5), (386, 387, 6), (386, 387, 7), (386, 387, 8), (386, 387, 9)] s0 g108 := F10.trans (rg108.mono (by decide))
                                have F12 : zFr [(389, 395, 1000), (386, 387, 3), (386, 387, 4), (386, 387, 5), (386, 387, 6), (386, 387, 7), (386, 387, 8), (386, 387, 9)] s0 g114 := by
                                  rw [eg114]
                                  exact zFr_za F11 (by decide)
                                have F13 : zFr [(389, 395, 1000), (386, 387, 3), (386, 387, 4), (386, 387, 5), (386, 387, 6), (386, 387, 7), (386, 387, 8), (386, 387, 9)] s0 g120 := F12.trans (rg120.mono (by decide))
                                have F14 : zFr [(389, 395, 1000), (386, 387, 3), (386, 387, 4), (386, 387, 5), (386, 387, 6), (386, 387, 7), (386, 387, 8), (386, 387, 9)] s0 g130 := F13.trans (rg130.mono (by decide))
                                have F15 : zFr [(389, 395, 1000), (386, 387, 3), (386, 387, 4), (386, 387, 5), (386, 387, 6), (386, 387, 7), (386, 387, 8), (386, 387, 9)] s0 g136 := by
                                  rw [eg136]
                                  exact zFr_za F14 (by decide)
                                have F16 : zFr [(389, 395, 1000), (386, 387, 3), (386, 387, 4), (386, 387, 5), (386, 387, 6), (386, 387, 7), (386, 387, 8), (386, 387, 9)] s0 g142 := F15.trans (rg142.mono (by decide))
                                exact ⟨mg142, fun k _ => congrFun (F16.a (by decide)) k⟩
                              · skip
                                intro x154 ex154
                                intro g160 eg160
                                have mg20 : MP s0 g20 := AP.mp hs h3 qg20
                                have ng42 : MP g20 g42 := qg42
                                have mg42 : MP s0 g42 := mg20.trans ng42.wp
                                have mg48 : MP s0 g48 := by
                                  rw [eg48]
                                  exact mg42.z (by decide) (by decide)
                                have ng54 : MP g48 g54 := qg54
                                have mg54 : MP s0 g54 := mg48.trans ng54.wp
                                have ng64 : MP g54 g64 ∧ _ := qg64
                                have mg64 : MP s0 g64 := mg54.trans ng64.1.wp
                                have mg70 : MP s0 g70 := by
                                  rw [eg70]
                                  exact mg64.z (by decide) (by decide)
                                have ng76 : MP g70 g76 := qg76
                                have mg76 : MP s0 g76 := mg70.trans ng76.wp
                                have ng86 : MP g76 g86 ∧ _ := qg86
                                have mg86 : MP s0 g86 := mg76.trans ng86.1.wp
                                have mg92 : MP s0 g92 := by
                                  rw [eg92]
                                  exact mg86.z (by decide) (by decide)
                                have ng98 : MP g92 g98 := qg98
                                have mg98 : MP s0 g98 := mg92.trans ng98.wp
                                have ng108 : MP g98 g108 ∧ _ := qg108
                                have mg108 : MP s0 g108 := mg98.trans ng108.1.wp
                                have mg114 : MP s0 g114 := by
                                  rw [eg114]
                                  exact mg108.z (by decide) (by decide)
                                have ng120 : MP g114 g120 := qg120
                                have mg120 : MP s0 g120 := mg114.trans ng120.wp
                                have ng130 : MP g120 g130 ∧ _ := qg130
                                have mg130 : MP s0 g130 := mg120.trans ng130.1.wp
                                have mg136 : MP s0 g136 := by
                                  rw [eg136]
                                  exact mg130.z (by decide) (by decide)
                                have ng142 : WP g136 g142 := qg142
                                have mg142 : MP s0 g142 := mg136.trans ng142
                                have mg160 : MP s0 g160 := by
                                  rw [eg160]
                                  exact mg142.z (by decide) (by decide)
                                have F0 : zFr [(389, 395, 1000), (386, 387, 3), (386, 387, 4), (386, 387, 5), (386, 387, 6), (386, 387, 7), (386, 387, 8), (386, 387, 9)] s0 s0 := zFr_refl
                                have F1 : zFr [(389, 395, 1000), (386, 387, 3), (386, 387, 4), (386, 387, 5), (386, 387, 6), (386, 387, 7), (386, 387, 8), (386, 387, 9)] s0 g20 := F0.trans (rg20.mono (by decide))
                                have F2 : zFr [(389, 395, 1000), (386, 387, 3), (386, 387, 4), (386, 387, 5), (386, 387, 6), (386, 387, 7), (386, 387, 8), (386, 387, 9)] s0 g42 := F1.trans (rg42.mono (by decide))
                                have F3 : zFr [(389, 395, 1000), (386, 387, 3), (386, 387, 4), (386, 387, 5), (386, 387, 6), (386, 387, 7), (386, 387, 8), (386, 387, 9)] s0 g48 := by
                                  rw [eg48]
                                  exact zFr_za F2 (by decide)
                                have F4 : zFr [(389, 395, 1000), (386, 387, 3), (386, 387, 4), (386, 387, 5), (386, 387, 6), (386, 387, 7), (386, 387, 8), (386, 387, 9)] s0 g54 := F3.trans (rg54.mono (by decide))
                                have F5 : zFr [(389, 395, 1000), (386, 387, 3), (386, 387, 4), (386, 387, 5), (386, 387, 6), (386, 387, 7), (386, 387, 8), (386, 387, 9)] s0 g64 := F4.trans (rg64.mono (by decide))
                                have F6 : zFr [(389, 395, 1000), (386, 387, 3), (386, 387, 4), (386, 387, 5), (386, 387, 6), (386, 387, 7), (386, 387, 8), (386, 387, 9)] s0 g70 := by
                                  rw [eg70]
                                  exact zFr_za F5 (by decide)
                                have F7 : zFr [(389, 395, 1000), (386, 387, 3), (386, 387, 4), (386, 387, 5), (386, 387, 6), (386, 387, 7), (386, 387, 8), (386, 387, 9)] s0 g76 := F6.trans (rg76.mono (by decide))
                                have F8 : zFr [(389, 395, 1000), (386, 387, 3), (386, 387, 4), (386, 387, 5), (386, 387, 6), (386, 387, 7), (386, 387, 8), (386, 387, 9)] s0 g86 := F7.trans (rg86.mono (by decide))
                                have F9 : zFr [(389, 395, 1000), (386, 387, 3), (386, 387, 4), (386, 387, 5), (386, 387, 6), (386, 387, 7), (386, 387, 8), (386, 387, 9)] s0 g92 := by
                                  rw [eg92]
                                  exact zFr_za F8 (by decide)
                                have F10 : zFr [(389, 395, 1000), (386, 387, 3), (386, 387, 4), (386, 387, 5), (386, 387, 6), (386, 387, 7), (386, 387, 8), (386, 387, 9)] s0 g98 := F9.trans (rg98.mono (by decide))
                                have F11 : zFr [(389, 395, 1000), (386, 387, 3), (386, 387, 4), (386, 387, 5), (386, 387, 6), (386, 387, 7), (386, 387, 8), (386, 387, 9)] s0 g108 := F10.trans (rg108.mono (by decide))
                                have F12 : zFr [(389, 395, 1000), (386, 387, 3), (386, 387, 4), (386, 387, 5), (386, 387, 6), (386, 387, 7), (386, 387, 8), (386, 387, 9)] s0 g114 := by
                                  rw [eg114]
                                  exact zFr_za F11 (by decide)
                                have F13 : zFr [(389, 395, 1000), (386, 387, 3), (386, 387, 4), (386, 387, 5), (386, 387, 6), (386, 387, 7), (386, 387, 8), (386, 387, 9)] s0 g120 := F12.trans (rg120.mono (by decide))
                                have F14 : zFr [(389, 395, 1000), (386, 387, 3), (386, 387, 4), (386, 387, 5), (386, 387, 6), (386, 387, 7), (386, 387, 8), (386, 387, 9)] s0 g130 := F13.trans (rg130.mono (by decide))
                                have F15 : zFr [(389, 395, 1000), (386, 387, 3), (386, 387, 4), (386, 387, 5), (386, 387, 6), (386, 387, 7), (386, 387, 8), (386, 387, 9)] s0 g136 := by
                                  rw [eg136]
                                  exact zFr_za F14 (by decide)
                                have F16 : zFr [(389, 395, 1000), (386, 387, 3), (386, 387, 4), (386, 387, 5), (386, 387, 6), (386, 387, 7), (386, 387, 8), (386, 387, 9)] s0 g142 := F15.trans (rg142.mono (by decide))
                                refine ⟨mg160, fun k hk2 => ?_⟩
                                rw [eg160, zup_ne (Or.inr ?_)]
                                · exact congrFun (F16.a (by decide)) k
                                · rw [show x1 = s0 386 35 by omega]
                                  exact hk2
  · skip
    intro x161 ex161 fx161 gx161
    refine ⟨fun h165 => ?_, fun h165 => ?_⟩
    · skip
      exfalso
      omega
    · skip
      intro x166 ex166 fx166 gx166
      intro g174 eg174
      intro g179 eg179
      have e2 : g179 = blF s0 5 x166 := by
        rw [eg179, eg174]
        rfl
      rw [e2]
      exact ⟨MP.bl hs hk (by decide) (by decide), fun k _ => rfl⟩
set_option maxHeartbeats 4000000 in
theorem v_2325 {s0 : zF} (hs : SG s0) (hk : s0 386 8 = 0) (h3 : 1 ≤ s0 386 3) : b_2325 s0 (fun g => MP s0 g) := by
  have hz := hs.sz
  unfold b_2325
  intro x1 ex1 fx1 gx1
  refine ⟨fun h5 => ?_, fun h5 => ?_⟩
  · skip
    exfalso
    omega
  · skip
    refine ⟨fun g' => AP s0 g', ?_, ?_⟩
    · skip
      exact v_2310 (SG.ap hs)
    · skip
      intro g11 rg11 qg11
      intro x13 ex13 fx13 gx13
      refine ⟨fun h17 => ?_, fun h17 => ?_⟩
      · skip
        have mg11 : MP s0 g11 := AP.mp hs h3 qg11
        exact mg11
      · skip
        refine ⟨fun v g' => MP g11 g' ∧ (g' 386 8 = 0 → 0 ≤ v ∧ v ≤ 99), ?_, ?_⟩
        · skip
          have mg11 : MP s0 g11 := AP.mp hs h3 qg11
          exact v_2322 mg11.1
        · skip
          intro x23 g26 rg26 qg26
          refine ⟨fun g' => MP g26 g', ?_, ?_⟩
          · skip
            have mg11 : MP s0 g11 := AP.mp hs h3 qg11
            have ng26 : MP g11 g26 ∧ _ := qg26
            have mg26 : MP s0 g26 := mg11.trans ng26.1.wp
            exact v_2321 mg26.1
          · skip
            intro g33 rg33 qg33
            refine ⟨fun v g' => MP g33 g' ∧ (g' 386 8 = 0 → 0 ≤ v ∧ v ≤ 10), ?_, ?_⟩
            · skip
              have mg11 : MP s0 g11 := AP.mp hs h3 qg11
              have ng26 : MP g11 g26 ∧ _ := qg26
              have mg26 : MP s0 g26 := mg11.trans ng26.1.wp
              have ng33 : MP g26 g33 := qg33
              have mg33 : MP s0 g33 := mg26.trans ng33.wp
              exact v_2322 mg33.1
            · skip
              intro x40 g43 rg43 qg43
              intro x45 ex45 fx45 gx45
              refine ⟨fun h49 => ?_, fun h49 => ?_⟩
              · skip
                have mg11 : MP s0 g11 := AP.mp hs h3 qg11
                have ng26 : MP g11 g26 ∧ _ := qg26
                have mg26 : MP s0 g26 := mg11.trans ng26.1.wp
                have ng33 : MP g26 g33 := qg33
                have mg33 : MP s0 g33 := mg26.trans ng33.wp
                have ng43 : MP g33 g43 ∧ _ := qg43
                have mg43 : MP s0 g43 := mg33.trans ng43.1.wp
                exact mg43
              · skip
                intro x50 ex50 fx50 gx50
                intro x54 ex54
                have oh56 : (-2147483648 ≤ x54 + x40 ∧ x54 + x40 ≤ 2147483647) := by
                  have mg11 : MP s0 g11 := AP.mp hs h3 qg11
                  have ng26 : MP g11 g26 ∧ _ := qg26
                  have mg26 : MP s0 g26 := mg11.trans ng26.1.wp
                  have ng33 : MP g26 g33 := qg33
                  have mg33 : MP s0 g33 := mg26.trans ng33.wp
                  have ng43 : MP g33 g43 ∧ _ := qg43
                  have mg43 : MP s0 g43 := mg33.trans ng43.1.wp
                  have nb := ng43.2 (by omega)
                  omega
                refine ⟨oh56, ?_⟩
                intro x57 ex57
                have oh59 : (0 ≤ x57 ∧ x57 ≤ 21) := by
                  have mg11 : MP s0 g11 := AP.mp hs h3 qg11
                  have ng26 : MP g11 g26 ∧ _ := qg26
                  have mg26 : MP s0 g26 := mg11.trans ng26.1.wp
                  have ng33 : MP g26 g33 := qg33
                  have mg33 : MP s0 g33 := mg26.trans ng33.wp
                  have ng43 : MP g33 g43 ∧ _ := qg43
                  have mg43 : MP s0 g43 := mg33.trans ng43.1.wp
                  have nb := ng43.2 (by omega)
                  omega
                refine ⟨oh59, ?_⟩
                intro g64 eg64
                have mg11 : MP s0 g11 := AP.mp hs h3 qg11
                have ng26 : MP g11 g26 ∧ _ := qg26
                have mg26 : MP s0 g26 := mg11.trans ng26.1.wp
                have ng33 : MP g26 g33 := qg33
                have mg33 : MP s0 g33 := mg26.trans ng33.wp
                have ng43 : MP g33 g43 ∧ _ := qg43
                have mg43 : MP s0 g43 := mg33.trans ng43.1.wp
                have mg64 : MP s0 g64 := by
                  rw [eg64]
                  exact mg43.z (by decide) (by decide)
                exact mg64
set_option maxHeartbeats 4000000 in
theorem v_2326 {b0 i : Nat} {s0 : zF} (hd : DI b0 i s0) (hb : b0 ≠ i) (hb1 : b0 ≤ 1) (hi1 : i ≤ 1) (hk : s0 386 8 = 0) (h3 : 1 ≤ s0 386 3) : b_2326 s0 (fun g => MP s0 g ∧ DI b0 i g) := by
  have hs := hd.1
  have hz := hs.sz
  have hin : s0 386 35 = i := hd.2.2.1
  unfold b_2326
  intro x1 ex1 fx1 gx1
  intro x8 ex8 fx8 gx8
  refine ⟨fun h9 => ?_, fun h9 => ?_⟩
  · skip
    intro x10 ex10 fx10 gx10
    refine ⟨fun h14 => ?_, fun h14 => ?_⟩
    · skip
      exfalso
      omega
    · skip
      refine ⟨fun g' => AP s0 g', ?_, ?_⟩
      · skip
        exact v_2310 (SG.ap hs)
      · skip
        intro g20 rg20 qg20
        intro x22 ex22 fx22 gx22
        refine ⟨fun h26 => ?_, fun h26 => ?_⟩
        · skip
          have mg20 : MP s0 g20 := AP.mp hs h3 qg20
          have F0 : zFr [(397, 401, 1000), (386, 387, 3), (386, 387, 4), (386, 387, 5), (386, 387, 6), (386, 387, 7), (386, 387, 8), (386, 387, 9)] s0 s0 := zFr_refl
          have F1 : zFr [(397, 401, 1000), (386, 387, 3), (386, 387, 4), (386, 387, 5), (386, 387, 6), (386, 387, 7), (386, 387, 8), (386, 387, 9)] s0 g20 := F0.trans (rg20.mono (by decide))
          exact ⟨mg20, hd.fr mg20.wp F1 (by decide) (by decide) (by decide) (by decide) (by decide) (by decide) (by decide) (by decide) (by decide) (by decide)⟩
        · skip
          intro x28 ex28
          intro x34 ex34
          refine ⟨fun _ g' => MP g20 g', ?_, ?_⟩
          · skip
            have mg20 : MP s0 g20 := AP.mp hs h3 qg20
            exact v_2318 mg20.1
          · skip
            intro y41 g42 rg42 qg42
            intro g48 eg48
            refine ⟨fun g' => MP g48 g', ?_, ?_⟩
            · skip
              have mg20 : MP s0 g20 := AP.mp hs h3 qg20
              have ng42 : MP g20 g42 := qg42
              have mg42 : MP s0 g42 := mg20.trans ng42.wp
              have mg48 : MP s0 g48 := by
                rw [eg48]
                exact mg42.z (by decide) (by decide)
              exact v_2321 mg48.1
            · skip
              intro g54 rg54 qg54
              refine ⟨fun v g' => MP g54 g' ∧ (g' 386 8 = 0 → 1 ≤ v ∧ v ≤ 999), ?_, ?_⟩
              · skip
                have mg20 : MP s0 g20 := AP.mp hs h3 qg20
                have ng42 : MP g20 g42 := qg42
                have mg42 : MP s0 g42 := mg20.trans ng42.wp
                have mg48 : MP s0 g48 := by
                  rw [eg48]
                  exact mg42.z (by decide) (by decide)
                have ng54 : MP g48 g54 := qg54
                have mg54 : MP s0 g54 := mg48.trans ng54.wp
                exact v_2322 mg54.1
              · skip
                intro x61 g64 rg64 qg64
                intro g70 eg70
                refine ⟨fun g' => MP g70 g', ?_, ?_⟩
                · skip
                  have mg20 : MP s0 g20 := AP.mp hs h3 qg20
                  have ng42 : MP g20 g42 := qg42
                  have mg42 : MP s0 g42 := mg20.trans ng42.wp
                  have mg48 : MP s0 g48 := by
                    rw [eg48]
                    exact mg42.z (by decide) (by decide)
                  have ng54 : MP g48 g54 := qg54
                  have mg54 : MP s0 g54 := mg48.trans ng54.wp
                  have ng64 : MP g54 g64 ∧ _ := qg64
                  have mg64 : MP s0 g64 := mg54.trans ng64.1.wp
                  have mg70 : MP s0 g70 := by
                    rw [eg70]
                    exact mg64.z (by decide) (by decide)
                  exact v_2321 mg70.1
                · skip
                  intro g76 rg76 qg76
                  refine ⟨fun v g' => MP g76 g' ∧ (g' 386 8 = 0 → 1 ≤ v ∧ v ≤ 60), ?_, ?_⟩
                  · skip
                    have mg20 : MP s0 g20 := AP.mp hs h3 qg20
                    have ng42 : MP g20 g42 := qg42
                    have mg42 : MP s0 g42 := mg20.trans ng42.wp
                    have mg48 : MP s0 g48 := by
                      rw [eg48]
                      exact mg42.z (by decide) (by decide)
                    have ng54 : MP g48 g54 := qg54
                    have mg54 : MP s0 g54 := mg48.trans ng54.wp
                    have ng64 : MP g54 g64 ∧ _ := qg64
                    have mg64 : MP s0 g64 := mg54.trans ng64.1.wp
                    have mg70 : MP s0 g70 := by
                      rw [eg70]
                      exact mg64.z (by decide) (by decide)
                    have ng76 : MP g70 g76 := qg76
                    have mg76 : MP s0 g76 := mg70.trans ng76.wp
                    exact v_2322 mg76.1
                  · skip
                    intro x83 g86 rg86 qg86
                    intro g92 eg92
                    refine ⟨fun g' => MP g92 g', ?_, ?_⟩
                    · skip
                      have mg20 : MP s0 g20 := AP.mp hs h3 qg20
                      have ng42 : MP g20 g42 := qg42
                      have mg42 : MP s0 g42 := mg20.trans ng42.wp
                      have mg48 : MP s0 g48 := by
                        rw [eg48]
                        exact mg42.z (by decide) (by decide)
                      have ng54 : MP g48 g54 := qg54
                      have mg54 : MP s0 g54 := mg48.trans ng54.wp
                      have ng64 : MP g54 g64 ∧ _ := qg64
                      have mg64 : MP s0 g64 := mg54.trans ng64.1.wp
                      have mg70 : MP s0 g70 := by
                        rw [eg70]
                        exact mg64.z (by decide) (by decide)
                      have ng76 : MP g70 g76 := qg76
                      have mg76 : MP s0 g76 := mg70.trans ng76.wp
                      have ng86 : MP g76 g86 ∧ _ := qg86
                      have mg86 : MP s0 g86 := mg76.trans ng86.1.wp
                      have mg92 : MP s0 g92 := by
                        rw [eg92]
                        exact mg86.z (by decide) (by decide)
                      exact v_2321 mg92.1
                    · skip
                      intro g98 rg98 qg98
                      refine ⟨fun v g' => MP g98 g' ∧ (g' 386 8 = 0 → 1 ≤ v ∧ v ≤ 999), ?_, ?_⟩
                      · skip
                        have mg20 : MP s0 g20 := AP.mp hs h3 qg20
                        have ng42 : MP g20 g42 := qg42
                        have mg42 : MP s0 g42 := mg20.trans ng42.wp
                        have mg48 : MP s0 g48 := by
                          rw [eg48]
                          exact mg42.z (by decide) (by decide)
                        have ng54 : MP g48 g54 := qg54
                        have mg54 : MP s0 g54 := mg48.trans ng54.wp
                        have ng64 : MP g54 g64 ∧ _ := qg64
                        have mg64 : MP s0 g64 := mg54.trans ng64.1.wp
                        have mg70 : MP s0 g70 := by
                          rw [eg70]
                          exact mg64.z (by decide) (by decide)
                        have ng76 : MP g70 g76 := qg76
                        have mg76 : MP s0 g76 := mg70.trans ng76.wp
                        have ng86 : MP g76 g86 ∧ _ := qg86
                        have mg86 : MP s0 g86 := mg76.trans ng86.1.wp
                        have mg92 : MP s0 g92 := by
                          rw [eg92]
                          exact mg86.z (by decide) (by decide)
                        have ng98 : MP g92 g98 := qg98
                        have mg98 : MP s0 g98 := mg92.trans ng98.wp
                        exact v_2322 mg98.1
                      · skip
                        intro x105 g108 rg108 qg108
                        intro g114 eg114
                        refine ⟨fun g' => MP g114 g', ?_, ?_⟩
                        · skip
                          have mg20 : MP s0 g20 := AP.mp hs h3 qg20
                          have ng42 : MP g20 g42 := qg42
                          have mg42 : MP s0 g42 := mg20.trans ng42.wp
                          have mg48 : MP s0 g48 := by
                            rw [eg48]
                            exact mg42.z (by decide) (by decide)
                          have ng54 : MP g48 g54 := qg54
                          have mg54 : MP s0 g54 := mg48.trans ng54.wp
                          have ng64 : MP g54 g64 ∧ _ := qg64
                          have mg64 : MP s0 g64 := mg54.trans ng64.1.wp
                          have mg70 : MP s0 g70 := by
                            rw [eg70]
                            exact mg64.z (by decide) (by decide)
                          have ng76 : MP g70 g76 := qg76
                          have mg76 : MP s0 g76 := mg70.trans ng76.wp
                          have ng86 : MP g76 g86 ∧ _ := qg86
                          have mg86 : MP s0 g86 := mg76.trans ng86.1.wp
                          have mg92 : MP s0 g92 := by
                            rw [eg92]
                            exact mg86.z (by decide) (by decide)
                          have ng98 : MP g92 g98 := qg98
                          have mg98 : MP s0 g98 := mg92.trans ng98.wp
                          have ng108 : MP g98 g108 ∧ _ := qg108
                          have mg108 : MP s0 g108 := mg98.trans ng108.1.wp
                          have mg114 : MP s0 g114 := by
                            rw [eg114]
                            exact mg108.z (by decide) (by decide)
                          exact v_2321 mg114.1
                        · skip
                          intro g120 rg120 qg120
                          refine ⟨fun v g' => MP g120 g' ∧ (g' 386 8 = 0 → 1 ≤ v ∧ v ≤ 99), ?_, ?_⟩
                          · skip
                            have mg20 : MP s0 g20 := AP.mp hs h3 qg20
                            have ng42 : MP g20 g42 := qg42
                            have mg42 : MP s0 g42 := mg20.trans ng42.wp
                            have mg48 : MP s0 g48 := by
                              rw [eg48]
                              exact mg42.z (by decide) (by decide)
                            have ng54 : MP g48 g54 := qg54
                            have mg54 : MP s0 g54 := mg48.trans ng54.wp
                            have ng64 : MP g54 g64 ∧ _ := qg64
                            have mg64 : MP s0 g64 := mg54.trans ng64.1.wp
                            have mg70 : MP s0 g70 := by
                              rw [eg70]
                              exact mg64.z (by decide) (by decide)
                            have ng76 : MP g70 g76 := qg76
                            have mg76 : MP s0 g76 := mg70.trans ng76.wp
                            have ng86 : MP g76 g86 ∧ _ := qg86
                            have mg86 : MP s0 g86 := mg76.trans ng86.1.wp
                            have mg92 : MP s0 g92 := by
                              rw [eg92]
                              exact mg86.z (by decide) (by decide)
                            have ng98 : MP g92 g98 := qg98
                            have mg98 : MP s0 g98 := mg92.trans ng98.wp
                            have ng108 : MP g98 g108 ∧ _ := qg108
                            have mg108 : MP s0 g108 := mg98.trans ng108.1.wp
                            have mg114 : MP s0 g114 := by
                              rw [eg114]
                              exact mg108.z (by decide) (by decide)
                            have ng120 : MP g114 g120 := qg120
                            have mg120 : MP s0 g120 := mg114.trans ng120.wp
                            exact v_2322 mg120.1
                          · skip
                            intro x127 g130 rg130 qg130
                            intro g136 eg136
                            intro x137 ex137 fx137 gx137
                            refine ⟨fun h141 => ?_, fun h141 => ?_⟩
                            · skip
                              have mg20 : MP s0 g20 := AP.mp hs h3 qg20
                              have ng42 : MP g20 g42 := qg42
                              have mg42 : MP s0 g42 := mg20.trans ng42.wp
                              have mg48 : MP s0 g48 := by
                                rw [eg48]
                                exact mg42.z (by decide) (by decide)
                              have ng54 : MP g48 g54 := qg54
                              have mg54 : MP s0 g54 := mg48.trans ng54.wp
                              have ng64 : MP g54 g64 ∧ _ := qg64
                              have mg64 : MP s0 g64 := mg54.trans ng64.1.wp
                              have mg70 : MP s0 g70 := by
                                rw [eg70]
                                exact mg64.z (by decide) (by decide)
                              have ng76 : MP g70 g76 := qg76
                              have mg76 : MP s0 g76 := mg70.trans ng76.wp
                              have ng86 : MP g76 g86 ∧ _ := qg86
                              have mg86 : MP s0 g86 := mg76.trans ng86.1.wp
                              have mg92 : MP s0 g92 := by
                                rw [eg92]
                                exact mg86.z (by decide) (by decide)
                              have ng98 : MP g92 g98 := qg98
                              have mg98 : MP s0 g98 := mg92.trans ng98.wp
                              have ng108 : MP g98 g108 ∧ _ := qg108
                              have mg108 : MP s0 g108 := mg98.trans ng108.1.wp
                              have mg114 : MP s0 g114 := by
                                rw [eg114]
                                exact mg108.z (by decide) (by decide)
                              have ng120 : MP g114 g120 := qg120
                              have mg120 : MP s0 g120 := mg114.trans ng120.wp
                              have ng130 : MP g120 g130 ∧ _ := qg130
                              have mg130 : MP s0 g130 := mg120.trans ng130.1.wp
                              have mg136 : MP s0 g136 := by
                                rw [eg136]
                                exact mg130.z (by decide) (by decide)
                              have F0 : zFr [(397, 401, 1000), (386, 387, 3), (386, 387, 4), (386, 387, 5), (386, 387, 6), (386, 387, 7), (386, 387, 8), (386, 387, 9)] s0 s0 := zFr_refl
                              have F1 : zFr [(397, 401, 1000), (386, 387, 3), (386, 387, 4), (386, 387, 5), (386, 387, 6), (386, 387, 7), (386, 387, 8), (386, 387, 9)] s0 g20 := F0.trans (rg20.mono (by decide))
                              have F2 : zFr [(397, 401, 1000), (386, 387, 3), (386, 387, 4), (386, 387, 5), (386, 387, 6), (386, 387, 7), (386, 387, 8), (386, 387, 9)] s0 g42 := F1.trans (rg42.mono (by decide))
                              have F3 : zFr [(397, 401, 1000), (386, 387, 3), (386, 387, 4), (386, 387, 5), (386, 387, 6), (386, 387, 7), (386, 387, 8), (386, 387, 9)] s0 g48 := by
                                rw [eg48]
                                exact zFr_za F2 (by decide)
                              have F4 : zFr [(397, 401, 1000), (386, 387, 3), (386, 387, 4), (386, 387, 5), (386, 387, 6), (386, 387, 7), (386, 387, 8), (386, 387, 9)] s0 g54 := F3.trans (rg54.mono (by decide))
                              have F5 : zFr [(397, 401, 1000), (386, 387, 3), (386, 387, 4), (386, 387, 5), (386, 387, 6), (386, 387, 7), (386, 387, 8), (386, 387, 9)] s0 g64 := F4.trans (rg64.mono (by decide))
                              have F6 : zFr [(397, 401, 1000), (386, 387, 3), (386, 387, 4), (386, 387, 5), (386, 387, 6), (386, 387, 7), (386, 387, 8), (386, 387, 9)] s0 g70 := by
                                rw [eg70]
                                exact zFr_za F5 (by decide)
                              have F7 : zFr [(397, 401, 1000), (386, 387, 3), (386, 387, 4), (386, 387, 5), (386, 387, 6), (386, 387, 7), (386, 387, 8), (386, 387, 9)] s0 g76 := F6.trans (rg76.mono (by decide))
                              have F8 : zFr [(397, 401, 1000), (386, 387, 3), (386, 387, 4), (386, 387, 5), (386, 387, 6), (386, 387, 7), (386, 387, 8), (386, 387, 9)] s0 g86 := F7.trans (rg86.mono (by decide))
                              have F9 : zFr [(397, 401, 1000), (386, 387, 3), (386, 387, 4), (386, 387, 5), (386, 387, 6), (386, 387, 7), (386, 387, 8), (386, 387, 9)] s0 g92 := by
                                rw [eg92]
                                exact zFr_za F8 (by decide)
                              have F10 : zFr [(397, 401, 1000), (386, 387, 3), (386, 387, 4), (386, 387, 5), (386, 387, 6), (386, 387, 7), (386, 387, 8), (386, 387, 9)] s0 g98 := F9.trans (rg98.mono (by decide))
                              have F11 : zFr [(397, 401, 1000), (386, 387, 3), (386, 387, 4), (386, 387, 5), (386, 387, 6), (386, 387, 7), (386, 387, 8), (386, 387, 9)] s0 g108 := F10.trans (rg108.mono (by decide))
                              have F12 : zFr [(397, 401, 1000), (386, 387, 3), (386, 387, 4), (386, 387, 5), (386, 387, 6), (386, 387, 7), (386, 387, 8), (386, 387, 9)] s0 g114 := by
                                rw [eg114]
                                exact zFr_za F11 (by decide)
                              have F13 : zFr [(397, 401, 1000), (386, 387, 3), (386, 387, 4), (386, 387, 5), (386, 387, 6), (386, 387, 7), (386, 387, 8), (386, 387, 9)] s0 g120 := F12.trans (rg120.mono (by decide))
                              have F14 : zFr [(397, 401, 1000), (386, 387, 3), (386, 387, 4), (386, 387, 5), (386, 387, 6), (386, 387, 7), (386, 387, 8), (386, 387, 9)] s0 g130 := F13.trans (rg130.mono (by decide))
                              have d1 : DI b0 i g130 := hd.fr mg130.wp F14 (by decide) (by decide) (by decide) (by decide) (by decide) (by decide) (by decide) (by decide) (by decide) (by decide)
                              have eX : x1.toNat = i := by omega
                              have e396 : g130 396 i = x8 := by
                                rw [congrFun (F14.a (a := 396) (by decide)) i, ← eX]
                                exact ex8.symm
                              have hk2 : (x34.toNat : Int) = 6 * i + g130 396 i := by omega
                              have d2 : DI b0 i g136 := by
                                rw [eg136]
                                exact d1.odds hb hb1 hi1 (by omega) (by omega) hk2
                              exact ⟨mg136, d2⟩
                            · skip
                              intro x147 ex147
                              intro g153 eg153
                              have mg20 : MP s0 g20 := AP.mp hs h3 qg20
                              have ng42 : MP g20 g42 := qg42
                              have mg42 : MP s0 g42 := mg20.trans ng42.wp
                              have mg48 : MP s0 g48 := by
                                rw [eg48]
                                exact mg42.z (by decide) (by decide)
                              have ng54 : MP g48 g54 := qg54
                              have mg54 : MP s0 g54 := mg48.trans ng54.wp
                              have ng64 : MP g54 g64 ∧ _ := qg64
                              have mg64 : MP s0 g64 := mg54.trans ng64.1.wp
                              have mg70 : MP s0 g70 := by
                                rw [eg70]
                                exact mg64.z (by decide) (by decide)
                              have ng76 : MP g70 g76 := qg76
                              have mg76 : MP s0 g76 := mg70.trans ng76.wp
                              have ng86 : MP g76 g86 ∧ _ := qg86
                              have mg86 : MP s0 g86 := mg76.trans ng86.1.wp
                              have mg92 : MP s0 g92 := by
                                rw [eg92]
                                exact mg86.z (by decide) (by decide)
                              have ng98 : MP g92 g98 := qg98
                              have mg98 : MP s0 g98 := mg92.trans ng98.wp
                              have ng108 : MP g98 g108 ∧ _ := qg108
                              have mg108 : MP s0 g108 := mg98.trans ng108.1.wp
                              have mg114 : MP s0 g114 := by
                                rw [eg114]
                                exact mg108.z (by decide) (by decide)
                              have ng120 : MP g114 g120 := qg120
                              have mg120 : MP s0 g120 := mg114.trans ng120.wp
                              have ng130 : MP g120 g130 ∧ _ := qg130
                              have mg130 : MP s0 g130 := mg120.trans ng130.1.wp
                              have mg136 : MP s0 g136 := by
                                rw [eg136]
                                exact mg130.z (by decide) (by decide)
                              have mg153 : MP s0 g153 := by
                                rw [eg153]
                                exact mg136.z (by decide) (by decide)
                              have F0 : zFr [(397, 401, 1000), (386, 387, 3), (386, 387, 4), (386, 387, 5), (386, 387, 6), (386, 387, 7), (386, 387, 8), (386, 387, 9)] s0 s0 := zFr_refl
                              have F1 : zFr [(397, 401, 1000), (386, 387, 3), (386, 387, 4), (386, 387, 5), (386, 387, 6), (386, 387, 7), (386, 387, 8), (386, 387, 9)] s0 g20 := F0.trans (rg20.mono (by decide))
                              have F2 : zFr [(397, 401, 1000), (386, 387, 3), (386, 387, 4), (386, 387, 5), (386, 387, 6), (386, 387, 7), (386, 387, 8), (386, 387, 9)] s0 g42 := F1.trans (rg42.mono (by decide))
                              have F3 : zFr [(397, 401, 1000), (386, 387, 3), (386, 387, 4), (386, 387, 5), (386, 387, 6), (386, 387, 7), (386, 387, 8), (386, 387, 9)] s0 g48 := by
                                rw [eg48]
                                exact zFr_za F2 (by decide)
                              have F4 : zFr [(397, 401, 1000), (386, 387, 3), (386, 387, 4), (386, 387, 5), (386, 387, 6), (386, 387, 7), (386, 387, 8), (386, 387, 9)] s0 g54 := F3.trans (rg54.mono (by decide))
                              have F5 : zFr [(397, 401, 1000), (386, 387, 3), (386, 387, 4), (386, 387, 5), (386, 387, 6), (386, 387, 7), (386, 387, 8), (386, 387, 9)] s0 g64 := F4.trans (rg64.mono (by decide))
                              have F6 : zFr [(397, 401, 1000), (386, 387, 3), (386, 387, 4), (386, 387, 5), (386, 387, 6), (386, 387, 7), (386, 387, 8), (386, 387, 9)] s0 g70 := by
                                rw [eg70]
                                exact zFr_za F5 (by decide)
                              have F7 : zFr [(397, 401, 1000), (386, 387, 3), (386, 387, 4), (386, 387, 5), (386, 387, 6), (386, 387, 7), (386, 387, 8), (386, 387, 9)] s0 g76 := F6.trans (rg76.mono (by decide))
                              have F8 : zFr [(397, 401, 1000), (386, 387, 3), (386, 387, 4), (386, 387, 5), (386, 387, 6), (386, 387, 7), (386, 387, 8), (386, 387, 9)] s0 g86 := F7.trans (rg86.mono (by decide))
                              have F9 : zFr [(397, 401, 1000), (386, 387, 3), (386, 387, 4), (386, 387, 5), (386, 387, 6), (386, 387, 7), (386, 387, 8), (386, 387, 9)] s0 g92 := by
                                rw [eg92]
                                exact zFr_za F8 (by decide)
                              have F10 : zFr [(397, 401, 1000), (386, 387, 3), (386, 387, 4), (386, 387, 5), (386, 387, 6), (386, 387, 7), (386, 387, 8), (386, 387, 9)] s0 g98 := F9.trans (rg98.mono (by decide))
                              have F11 : zFr [(397, 401, 1000), (386, 387, 3), (386, 387, 4), (386, 387, 5), (386, 387, 6), (386, 387, 7), (386, 387, 8), (386, 387, 9)] s0 g108 := F10.trans (rg108.mono (by decide))
                              have F12 : zFr [(397, 401, 1000), (386, 387, 3), (386, 387, 4), (386, 387, 5), (386, 387, 6), (386, 387, 7), (386, 387, 8), (386, 387, 9)] s0 g114 := by
                                rw [eg114]
                                exact zFr_za F11 (by decide)
                              have F13 : zFr [(397, 401, 1000), (386, 387, 3), (386, 387, 4), (386, 387, 5), (386, 387, 6), (386, 387, 7), (386, 387, 8), (386, 387, 9)] s0 g120 := F12.trans (rg120.mono (by decide))
                              have F14 : zFr [(397, 401, 1000), (386, 387, 3), (386, 387, 4), (386, 387, 5), (386, 387, 6), (386, 387, 7), (386, 387, 8), (386, 387, 9)] s0 g130 := F13.trans (rg130.mono (by decide))
                              have d1 : DI b0 i g130 := hd.fr mg130.wp F14 (by decide) (by decide) (by decide) (by decide) (by decide) (by decide) (by decide) (by decide) (by decide) (by decide)
                              have eX : x1.toNat = i := by omega
                              have e396 : g130 396 i = x8 := by
                                rw [congrFun (F14.a (a := 396) (by decide)) i, ← eX]
                                exact ex8.symm
                              have hk2 : (x34.toNat : Int) = 6 * i + g130 396 i := by omega
                              have d2 : DI b0 i g136 := by
                                rw [eg136]
                                exact d1.odds hb hb1 hi1 (by omega) (by omega) hk2
                              have e396b : g136 396 i = x8 := by
                                rw [eg136, zup_na (by decide)]
                                exact e396
                              have h8 : g136 386 8 = 0 := by omega
                              have h8b : g130 386 8 = 0 := by
                                rw [eg136] at h8
                                exact h8
                              have nb := ng130.2 h8b
                              have ho : 1 ≤ g136 401 (6 * i + (g136 396 i).toNat) ∧ g136 401 (6 * i + (g136 396 i).toNat) ≤ 99 := by
                                rw [e396b, eg136, show 6 * i + x8.toNat = x34.toNat by omega, zup_eq]
                                exact nb
                              refine ⟨mg153, ?_⟩
                              rw [eg153, eX]
                              exact d2.dream hb (by omega) (by omega) ho
  · skip
    intro x154 ex154 fx154 gx154
    refine ⟨fun h158 => ?_, fun h158 => ?_⟩
    · skip
      exfalso
      omega
    · skip
      intro x159 ex159 fx159 gx159
      intro g167 eg167
      intro g172 eg172
      have e2 : g172 = blF s0 5 x159 := by
        rw [eg172, eg167]
        rfl
      rw [e2]
      exact ⟨MP.bl hs hk (by decide) (by decide), hd.bl (by decide) (by decide)⟩
set_option maxHeartbeats 4000000 in
theorem v_2327 {a0 : Int} {b0 i : Nat} {s0 : zF} (hd : DI b0 i s0) (hb : b0 ≠ i) (hb1 : b0 ≤ 1) (hi1 : i ≤ 1) (hk : s0 386 8 = 0) (h3 : 1 ≤ s0 386 3) (ha : 0 ≤ a0 ∧ a0 ≤ 1) : b_2327 s0 a0 (fun g => MP s0 g ∧ DI b0 i g) := by
  have hs := hd.1
  have hz := hs.sz
  have hin : s0 386 35 = i := hd.2.2.1
  unfold b_2327
  intro x1 ex1 fx1 gx1
  intro x8 ex8 fx8 gx8
  refine ⟨fun h9 => ?_, fun h9 => ?_⟩
  · skip
    intro x10 ex10 fx10 gx10
    refine ⟨fun h14 => ?_, fun h14 => ?_⟩
    · skip
      exfalso
      omega
    · skip
      refine ⟨fun g' => AP s0 g', ?_, ?_⟩
      · skip
        exact v_2310 (SG.ap hs)
      · skip
        intro g20 rg20 qg20
        intro x22 ex22 fx22 gx22
        refine ⟨fun h26 => ?_, fun h26 => ?_⟩
        · skip
          have mg20 : MP s0 g20 := AP.mp hs h3 qg20
          have F0 : zFr [(403, 404, 1000), (386, 387, 3), (386, 387, 4), (386, 387, 5), (386, 387, 6), (386, 387, 7), (386, 387, 8), (386, 387, 9)] s0 s0 := zFr_refl
          have F1 : zFr [(403, 404, 1000), (386, 387, 3), (386, 387, 4), (386, 387, 5), (386, 387, 6), (386, 387, 7), (386, 387, 8), (386, 387, 9)] s0 g20 := F0.trans (rg20.mono (by decide))
          have d1 : DI b0 i g20 := hd.fr mg20.wp F1 (by decide) (by decide) (by decide) (by decide) (by decide) (by decide) (by decide) (by decide) (by decide) (by decide)
          exact ⟨mg20, d1⟩
        · skip
          intro x28 ex28
          intro x34 ex34
          have oh36 : (0 ≤ a0 ∧ a0 ≤ 1) := by
            omega
          refine ⟨oh36, ?_⟩
          intro g41 eg41
          intro x42 ex42 fx42 gx42
          intro g50 eg50
          refine ⟨fun g' => RP g50 g', ?_, ?_⟩
          · skip
            have mg20 : MP s0 g20 := AP.mp hs h3 qg20
            have mg41 : MP s0 g41 := by
              rw [eg41]
              exact mg20.z (by decide) (by decide)
            have mg50 : MP s0 g50 := by
              rw [eg50]
              exact mg41.z (by decide) (by decide)
            have eX : x1.toNat = i := by omega
            have eL : s0 402 i = x8 := by
              rw [← eX]
              exact ex8.symm
            have F0 : zFr [(403, 404, 1000), (386, 387, 3), (386, 387, 4), (386, 387, 5), (386, 387, 6), (386, 387, 7), (386, 387, 8), (386, 387, 9)] s0 s0 := zFr_refl
            have F1 : zFr [(403, 404, 1000), (386, 387, 3), (386, 387, 4), (386, 387, 5), (386, 387, 6), (386, 387, 7), (386, 387, 8), (386, 387, 9)] s0 g20 := F0.trans (rg20.mono (by decide))
            have F2 : zFr [(403, 404, 1000), (386, 387, 3), (386, 387, 4), (386, 387, 5), (386, 387, 6), (386, 387, 7), (386, 387, 8), (386, 387, 9)] s0 g41 := by
              rw [eg41]
              exact zFr_za F1 (by decide)
            have d2 : DI b0 i g41 := hd.fr mg41.wp F2 (by decide) (by decide) (by decide) (by decide) (by decide) (by decide) (by decide) (by decide) (by decide) (by decide)
            have l2 : g41 402 i = x8 := by
              rw [congrFun (F2.a (a := 402) (by decide)) i]
              exact eL
            have d3 : DI b0 i g50 := by
              rw [eg50]
              exact d2.at (by decide) hb hb1 hi1 (by omega) (by omega) (by omega)
            have l3 : g50 402 i = x8 := by
              rw [eg50, zup_na (by decide)]
              exact l2
            exact v_2328 d3.1 (by have := d3.2.2.1; omega) d3.2.2.2.1 d3.2.2.2.2.1
          · skip
            intro g56 rg56 qg56
            intro x58 ex58 fx58 gx58
            intro g66 eg66
            refine ⟨fun g' => MP g66 g', ?_, ?_⟩
            · skip
              have mg20 : MP s0 g20 := AP.mp hs h3 qg20
              have mg41 : MP s0 g41 := by
                rw [eg41]
                exact mg20.z (by decide) (by decide)
              have mg50 : MP s0 g50 := by
                rw [eg50]
                exact mg41.z (by decide) (by decide)
              have ng56 : RP g50 g56 := qg56
              have mg56 : MP s0 g56 := mg50.trans ⟨ng56.1, ng56.2.1⟩
              have mg66 : MP s0 g66 := by
                rw [eg66]
                exact mg56.z (by decide) (by decide)
              exact v_2321 mg66.1
            · skip
              intro g72 rg72 qg72
              refine ⟨fun g' => RP g72 g', ?_, ?_⟩
              · skip
                have mg20 : MP s0 g20 := AP.mp hs h3 qg20
                have mg41 : MP s0 g41 := by
                  rw [eg41]
                  exact mg20.z (by decide) (by decide)
                have mg50 : MP s0 g50 := by
                  rw [eg50]
                  exact mg41.z (by decide) (by decide)
                have ng56 : RP g50 g56 := qg56
                have mg56 : MP s0 g56 := mg50.trans ⟨ng56.1, ng56.2.1⟩
                have mg66 : MP s0 g66 := by
                  rw [eg66]
                  exact mg56.z (by decide) (by decide)
                have ng72 : MP g66 g72 := qg72
                have mg72 : MP s0 g72 := mg66.trans ng72.wp
                have eX : x1.toNat = i := by omega
                have eL : s0 402 i = x8 := by
                  rw [← eX]
                  exact ex8.symm
                have F0 : zFr [(403, 404, 1000), (386, 387, 3), (386, 387, 4), (386, 387, 5), (386, 387, 6), (386, 387, 7), (386, 387, 8), (386, 387, 9)] s0 s0 := zFr_refl
                have F1 : zFr [(403, 404, 1000), (386, 387, 3), (386, 387, 4), (386, 387, 5), (386, 387, 6), (386, 387, 7), (386, 387, 8), (386, 387, 9)] s0 g20 := F0.trans (rg20.mono (by decide))
                have F2 : zFr [(403, 404, 1000), (386, 387, 3), (386, 387, 4), (386, 387, 5), (386, 387, 6), (386, 387, 7), (386, 387, 8), (386, 387, 9)] s0 g41 := by
                  rw [eg41]
                  exact zFr_za F1 (by decide)
                have d2 : DI b0 i g41 := hd.fr mg41.wp F2 (by decide) (by decide) (by decide) (by decide) (by decide) (by decide) (by decide) (by decide) (by decide) (by decide)
                have l2 : g41 402 i = x8 := by
                  rw [congrFun (F2.a (a := 402) (by decide)) i]
                  exact eL
                have d3 : DI b0 i g50 := by
                  rw [eg50]
                  exact d2.at (by decide) hb hb1 hi1 (by omega) (by omega) (by omega)
                have l3 : g50 402 i = x8 := by
                  rw [eg50, zup_na (by decide)]
                  exact l2
                have d4 : DI b0 i g56 := d3.reads hb hb1 hi1 ng56 rg56
                have l4 : g56 402 i = x8 := by
                  rw [congrFun (rg56.a (a := 402) (by decide)) i]
                  exact l3
                have d5 : DI b0 i g66 := by
                  rw [eg66]
                  exact d4.at (by decide) hb hb1 hi1 (by omega) (by omega) (by omega)
                have l5 : g66 402 i = x8 := by
                  rw [eg66, zup_na (by decide)]
                  exact l4
                have d6 : DI b0 i g72 := d5.fr ng72.wp rg72 (by decide) (by decide) (by decide) (by decide) (by decide) (by decide) (by decide) (by decide) (by decide) (by decide)
                have l6 : g72 402 i = x8 := by
                  rw [congrFun (rg72.a (a := 402) (by decide)) i]
                  exact l5
                exact v_2328 d6.1 (by have := d6.2.2.1; omega) d6.2.2.2.1 d6.2.2.2.2.1
              · skip
                intro g79 rg79 qg79
                intro x81 ex81 fx81 gx81
                intro g89 eg89
                intro x90 ex90 fx90 gx90
                refine ⟨fun h94 => ?_, fun h94 => ?_⟩
                · skip
                  have mg20 : MP s0 g20 := AP.mp hs h3 qg20
                  have mg41 : MP s0 g41 := by
                    rw [eg41]
                    exact mg20.z (by decide) (by decide)
                  have mg50 : MP s0 g50 := by
                    rw [eg50]
                    exact mg41.z (by decide) (by decide)
                  have ng56 : RP g50 g56 := qg56
                  have mg56 : MP s0 g56 := mg50.trans ⟨ng56.1, ng56.2.1⟩
                  have mg66 : MP s0 g66 := by
                    rw [eg66]
                    exact mg56.z (by decide) (by decide)
                  have ng72 : MP g66 g72 := qg72
                  have mg72 : MP s0 g72 := mg66.trans ng72.wp
                  have ng79 : RP g72 g79 := qg79
                  have mg79 : MP s0 g79 := mg72.trans ⟨ng79.1, ng79.2.1⟩
                  have mg89 : MP s0 g89 := by
                    rw [eg89]
                    exact mg79.z (by decide) (by decide)
                  have eX : x1.toNat = i := by omega
                  have eL : s0 402 i = x8 := by
                    rw [← eX]
                    exact ex8.symm
                  have F0 : zFr [(403, 404, 1000), (386, 387, 3), (386, 387, 4), (386, 387, 5), (386, 387, 6), (386, 387, 7), (386, 387, 8), (386, 387, 9)] s0 s0 := zFr_refl
                  have F1 : zFr [(403, 404, 1000), (386, 387, 3), (386, 387, 4), (386, 387, 5), (386, 387, 6), (386, 387, 7), (386, 387, 8), (386, 387, 9)] s0 g20 := F0.trans (rg20.mono (by decide))
                  have F2 : zFr [(403, 404, 1000), (386, 387, 3), (386, 387, 4), (386, 387, 5), (386, 387, 6), (386, 387, 7), (386, 387, 8), (386, 387, 9)] s0 g41 := by
                    rw [eg41]
                    exact zFr_za F1 (by decide)
                  have d2 : DI b0 i g41 := hd.fr mg41.wp F2 (by decide) (by decide) (by decide) (by decide) (by decide) (by decide) (by decide) (by decide) (by decide) (by decide)
                  have l2 : g41 402 i = x8 := by
                    rw [congrFun (F2.a (a := 402) (by decide)) i]
                    exact eL
                  have d3 : DI b0 i g50 := by
                    rw [eg50]
                    exact d2.at (by decide) hb hb1 hi1 (by omega) (by omega) (by omega)
                  have l3 : g50 402 i = x8 := by
                    rw [eg50, zup_na (by decide)]
                    exact l2
                  have d4 : DI b0 i g56 := d3.reads hb hb1 hi1 ng56 rg56
                  have l4 : g56 402 i = x8 := by
                    rw [congrFun (rg56.a (a := 402) (by decide)) i]
                    exact l3
                  have d5 : DI b0 i g66 := by
                    rw [eg66]
                    exact d4.at (by decide) hb hb1 hi1 (by omega) (by omega) (by omega)
                  have l5 : g66 402 i = x8 := by
                    rw [eg66, zup_na (by decide)]
                    exact l4
                  have d6 : DI b0 i g72 := d5.fr ng72.wp rg72 (by decide) (by decide) (by decide) (by decide) (by decide) (by decide) (by decide) (by decide) (by decide) (by decide)
                  have l6 : g72 402 i = x8 := by
                    rw [congrFun (rg72.a (a := 402) (by decide)) i]
                    exact l5
                  have d7 : DI b0 i g79 := d6.reads hb hb1 hi1 ng79 rg79
                  have l7 : g79 402 i = x8 := by
                    rw [congrFun (rg79.a (a := 402) (by decide)) i]
                    exact l6
                  have d8 : DI b0 i g89 := by
                    rw [eg89]
                    exact d7.at (by decide) hb hb1 hi1 (by omega) (by omega) (by omega)
                  have l8 : g89 402 i = x8 := by
                    rw [eg89, zup_na (by decide)]
                    exact l7
                  exact ⟨mg89, d8⟩
                · skip
                  intro x100 ex100
                  intro g106 eg106
                  have mg20 : MP s0 g20 := AP.mp hs h3 qg20
                  have mg41 : MP s0 g41 := by
                    rw [eg41]
                    exact mg20.z (by decide) (by decide)
                  have mg50 : MP s0 g50 := by
                    rw [eg50]
                    exact mg41.z (by decide) (by decide)
                  have ng56 : RP g50 g56 := qg56
                  have mg56 : MP s0 g56 := mg50.trans ⟨ng56.1, ng56.2.1⟩
                  have mg66 : MP s0 g66 := by
                    rw [eg66]
                    exact mg56.z (by decide) (by decide)
                  have ng72 : MP g66 g72 := qg72
                  have mg72 : MP s0 g72 := mg66.trans ng72.wp
                  have ng79 : RP g72 g79 := qg79
                  have mg79 : MP s0 g79 := mg72.trans ⟨ng79.1, ng79.2.1⟩
                  have mg89 : MP s0 g89 := by
                    rw [eg89]
                    exact mg79.z (by decide) (by decide)
                  have mg106 : MP s0 g106 := by
                    rw [eg106]
                    exact mg89.z (by decide) (by decide)
                  have eX : x1.toNat = i := by omega
                  have eL : s0 402 i = x8 := by
                    rw [← eX]
                    exact ex8.symm
                  have F0 : zFr [(403, 404, 1000), (386, 387, 3), (386, 387, 4), (386, 387, 5), (386, 387, 6), (386, 387, 7), (386, 387, 8), (386, 387, 9)] s0 s0 := zFr_refl
                  have F1 : zFr [(403, 404, 1000), (386, 387, 3), (386, 387, 4), (386, 387, 5), (386, 387, 6), (386, 387, 7), (386, 387, 8), (386, 387, 9)] s0 g20 := F0.trans (rg20.mono (by decide))
                  have F2 : zFr [(403, 404, 1000), (386, 387, 3), (386, 387, 4), (386, 387, 5), (386, 387, 6), (386, 387, 7), (386, 387, 8), (386, 387, 9)] s0 g41 := by
                    rw [eg41]
                    exact zFr_za F1 (by decide)
                  have d2 : DI b0 i g41 := hd.fr mg41.wp F2 (by decide) (by decide) (by decide) (by decide) (by decide) (by decide) (by decide) (by decide) (by decide) (by decide)
                  have l2 : g41 402 i = x8 := by
                    rw [congrFun (F2.a (a := 402) (by decide)) i]
                    exact eL
                  have d3 : DI b0 i g50 := by
                    rw [eg50]
                    exact d2.at (by decide) hb hb1 hi1 (by omega) (by omega) (by omega)
                  have l3 : g50 402 i = x8 := by
                    rw [eg50, zup_na (by decide)]
                    exact l2
                  have d4 : DI b0 i g56 := d3.reads hb hb1 hi1 ng56 rg56
                  have l4 : g56 402 i = x8 := by
                    rw [congrFun (rg56.a (a := 402) (by decide)) i]
                    exact l3
                  have d5 : DI b0 i g66 := by
                    rw [eg66]
                    exact d4.at (by decide) hb hb1 hi1 (by omega) (by omega) (by omega)
                  have l5 : g66 402 i = x8 := by
                    rw [eg66, zup_na (by decide)]
                    exact l4
                  have d6 : DI b0 i g72 := d5.fr ng72.wp rg72 (by decide) (by decide) (by decide) (by decide) (by decide) (by decide) (by decide) (by decide) (by decide) (by decide)
                  have l6 : g72 402 i = x8 := by
                    rw [congrFun (rg72.a (a := 402) (by decide)) i]
                    exact l5
                  have d7 : DI b0 i g79 := d6.reads hb hb1 hi1 ng79 rg79
                  have l7 : g79 402 i = x8 := by
                    rw [congrFun (rg79.a (a := 402) (by decide)) i]
                    exact l6
                  have d8 : DI b0 i g89 := by
                    rw [eg89]
                    exact d7.at (by decide) hb hb1 hi1 (by omega) (by omega) (by omega)
                  have l8 : g89 402 i = x8 := by
                    rw [eg89, zup_na (by decide)]
                    exact l7
                  have h8 : g89 386 8 = 0 := by omega
                  have h8a : g79 386 8 = 0 := by
                    rw [eg89] at h8
                    exact h8
                  have k7 := d7.1.sz
                  have k6 := d6.1.sz
                  have k4 := d4.1.sz
                  have p7 := ng79.2.1.2.1
                  have p6 := ng72.2.1.2.1
                  have h8b : g72 386 8 = 0 := by omega
                  have h8c : g66 386 8 = 0 := by
                    have := d5.1.sz
                    omega
                  have h8d : g56 386 8 = 0 := by
                    rw [eg66] at h8c
                    exact h8c
                  have w1 := ng56.2.2.2.2.2 h8d
                  have w2 := ng79.2.2.2.2.2 h8a
                  have u1 := ng56.2.2.1
                  have u2 := ng79.2.2.1
                  have u3 := ng79.2.2.2.1
                  have f3 : g50 386 34 = x42 := by
                    rw [eg50]
                    show g41 386 34 = x42
                    omega
                  have f3i : g50 386 35 = i := d3.2.2.1
                  have f4 : g56 386 34 = x58 := by omega
                  have f6 : g72 386 34 = x58 := by
                    rw [rg72.s (a := 386) (k := 34) (by decide), eg66]
                    exact f4
                  have f6i : g72 386 35 = i := d6.2.2.1
                  have f7 : g79 386 34 = x81 := by omega
                  have f8 : g89 386 34 = x81 := by
                    rw [eg89]
                    exact f7
                  have eK : x34.toNat = 8 * i + x8.toNat := by omega
                  have v4 : g89 404 (8 * i + x8.toNat) = x42 := by
                    rw [eg89, zup_na (by decide), congrFun (rg79.a (a := 404) (by decide)) _, congrFun (rg72.a (a := 404) (by decide)) _, eg66, zup_na (by decide), congrFun (rg56.a (a := 404) (by decide)) _, eg50, eK, zup_eq]
                  have v5 : g89 405 (8 * i + x8.toNat) = x58 := by
                    rw [eg89, zup_na (by decide), congrFun (rg79.a (a := 405) (by decide)) _, congrFun (rg72.a (a := 405) (by decide)) _, eg66, eK, zup_eq]
                  have v6 : g89 406 (8 * i + x8.toNat) = x81 := by
                    rw [eg89, eK, zup_eq]
                  have v7 : g89 407 = g79 407 := by
                    rw [eg89, zup_na (by decide)]
                  have v74 : ∀ p : Nat, ¬ (1600 * (i : Int) + x58 ≤ p ∧ (p : Int) < 1600 * i + 1600) → g79 407 p = g56 407 p := by
                    intro p hp
                    rw [ng79.2.2.2.2.1 p (by rw [f6, f6i]; exact hp), congrFun (rg72.a (a := 407) (by decide)) _, eg66, zup_na (by decide)]
                  have hl : LWk g89 i (g89 402 i).toNat (g89 386 34) := by
                    unfold LWk
                    rw [l8, v4, v5, v6, v7, f8]
                    have j0 := d3.2.2.2.1
                    refine ⟨by omega, by omega, by omega, Int.le_refl _, ?_, ?_⟩
                    · rw [zH_congr (cs := g56 407) (fun j hj => v74 _ (by omega))]
                      rw [f3, f3i, f4] at w1
                      rw [show 1600 * i + x42.toNat = (1600 * (i : Int) + x42).toNat by omega]
                      exact w1
                    · rw [f6, f6i, f7] at w2
                      rw [show 1600 * i + x58.toNat = (1600 * (i : Int) + x58).toNat by omega]
                      exact w2
                  refine ⟨mg106, ?_⟩
                  rw [eg106, eX]
                  exact d8.law hb (by omega) (by omega) (by omega) hl
  · skip
    intro x107 ex107 fx107 gx107
    refine ⟨fun h111 => ?_, fun h111 => ?_⟩
    · skip
      exfalso
      omega
    · skip
      intro x112 ex112 fx112 gx112
      intro g120 eg120
      intro g125 eg125
      have e2 : g125 = blF s0 5 x112 := by
        rw [eg125, eg120]
        rfl
      rw [e2]
      exact ⟨MP.bl hs hk (by decide) (by decide), hd.bl (by decide) (by decide)⟩
set_option maxHeartbeats 4000000 in
theorem v_2314 {b0 i : Nat} {s0 : zF} (hd : DI b0 i s0) (hb : b0 ≠ i) (hb1 : b0 ≤ 1) (hi1 : i ≤ 1) (hk : s0 386 8 = 0) (h3 : 1 ≤ s0 386 3) : b_2314 s0 (fun g => MP s0 g ∧ DI b0 i g ∧ g 388 b0 = s0 388 b0) := by
  have hs := hd.1
  have hz := hs.sz
  have hin : s0 386 35 = i := hd.2.2.1
  unfold b_2314
  intro x1 ex1 fx1 gx1
  refine ⟨fun h5 => ?_, fun h5 => ?_⟩
  · skip
    refine ⟨fun h6 => ?_, fun h6 => ?_⟩
    · skip
      refine ⟨fun h7 => ?_, fun h7 => ?_⟩
      · skip
        refine ⟨fun h8 => ?_, fun h8 => ?_⟩
        · skip
          refine ⟨fun h9 => ?_, fun h9 => ?_⟩
          · skip
            intro x10 ex10 fx10 gx10
            intro x14 ex14 fx14 gx14
            refine ⟨fun h18 => ?_, fun h18 => ?_⟩
            · skip
              exfalso
              omega
            · skip
              intro g23 eg23
              intro g28 eg28
              have e2 : g28 = blF s0 1 x10 := by
                rw [eg28, eg23]
                rfl
              rw [e2]
              exact ⟨MP.bl hs hk (by decide) (by decide), hd.bl (by decide) (by decide), rfl⟩
          · skip
            intro y32 ey32
            intro x33 ex33
            refine ⟨fun h35 => ?_, fun h35 => ?_⟩
            · skip
              intro x36 ex36 fx36 gx36
              intro x40 ex40 fx40 gx40
              refine ⟨fun h44 => ?_, fun h44 => ?_⟩
              · skip
                exfalso
                omega
              · skip
                intro g49 eg49
                intro g54 eg54
                have e2 : g54 = blF s0 1 x36 := by
                  rw [eg54, eg49]
                  rfl
                rw [e2]
                exact ⟨MP.bl hs hk (by decide) (by decide), hd.bl (by decide) (by decide), rfl⟩
            · skip
              refine ⟨fun g' => MP s0 g' ∧ DI b0 i g', ?_, ?_⟩
              · skip
                exact v_2327 hd hb hb1 hi1 hk h3 (by decide)
              · skip
                intro g60 rg60 qg60
                have m : MP s0 g60 ∧ DI b0 i g60 := qg60
                exact ⟨m.1, m.2, congrFun (rg60.a (a := 388) (by decide)) b0⟩
        · skip
          intro y65 ey65
          intro x66 ex66
          refine ⟨fun h68 => ?_, fun h68 => ?_⟩
          · skip
            intro x69 ex69
            refine ⟨fun h71 => ?_, fun h71 => ?_⟩
            · skip
              intro x72 ex72 fx72 gx72
              intro x76 ex76 fx76 gx76
              refine ⟨fun h80 => ?_, fun h80 => ?_⟩
              · skip
                exfalso
                omega
              · skip
                intro g85 eg85
                intro g90 eg90
                have e2 : g90 = blF s0 1 x72 := by
                  rw [eg90, eg85]
                  rfl
                rw [e2]
                exact ⟨MP.bl hs hk (by decide) (by decide), hd.bl (by decide) (by decide), rfl⟩
            · skip
              refine ⟨fun g' => MP s0 g' ∧ DI b0 i g', ?_, ?_⟩
              · skip
                exact v_2327 hd hb hb1 hi1 hk h3 (by decide)
              · skip
                intro g96 rg96 qg96
                have m : MP s0 g96 ∧ DI b0 i g96 := qg96
                exact ⟨m.1, m.2, congrFun (rg96.a (a := 388) (by decide)) b0⟩
          · skip
            refine ⟨fun g' => MP s0 g' ∧ DI b0 i g', ?_, ?_⟩
            · skip
              exact v_2327 hd hb hb1 hi1 hk h3 (by decide)
            · skip
              intro g103 rg103 qg103
              have m : MP s0 g103 ∧ DI b0 i g103 := qg103
              exact ⟨m.1, m.2, congrFun (rg103.a (a := 388) (by decide)) b0⟩
      · skip
        intro y108 ey108
        intro x109 ex109
        refine ⟨fun h111 => ?_, fun h111 => ?_⟩
        · skip
          intro x112 ex112
          refine ⟨fun h114 => ?_, fun h114 => ?_⟩
          · skip
            intro x115 ex115
            refine ⟨fun h117 => ?_, fun h117 => ?_⟩
            · skip
              intro x118 ex118 fx118 gx118
              intro x122 ex122 fx122 gx122
              refine ⟨fun h126 => ?_, fun h126 => ?_⟩
              · skip
                exfalso
                omega
              · skip
                intro g131 eg131
                intro g136 eg136
                have e2 : g136 = blF s0 1 x118 := by
                  rw [eg136, eg131]
                  rfl
                rw [e2]
                exact ⟨MP.bl hs hk (by decide) (by decide), hd.bl (by decide) (by decide), rfl⟩
            · skip
              refine ⟨fun g' => MP s0 g' ∧ DI b0 i g', ?_, ?_⟩
              · skip
                exact v_2327 hd hb hb1 hi1 hk h3 (by decide)
              · skip
                intro g142 rg142 qg142
                have m : MP s0 g142 ∧ DI b0 i g142 := qg142
                exact ⟨m.1, m.2, congrFun (rg142.a (a := 388) (by decide)) b0⟩
          · skip
            refine ⟨fun g' => MP s0 g' ∧ DI b0 i g', ?_, ?_⟩
            · skip
              exact v_2327 hd hb hb1 hi1 hk h3 (by decide)
            · skip
              intro g149 rg149 qg149
              have m : MP s0 g149 ∧ DI b0 i g149 := qg149
              exact ⟨m.1, m.2, congrFun (rg149.a (a := 388) (by decide)) b0⟩
        · skip
          refine ⟨fun g' => MP s0 g' ∧ DI b0 i g', ?_, ?_⟩
          · skip
            exact v_2326 hd hb hb1 hi1 hk h3
          · skip
            intro g156 rg156 qg156
            have m : MP s0 g156 ∧ DI b0 i g156 := qg156
            exact ⟨m.1, m.2, congrFun (rg156.a (a := 388) (by decide)) b0⟩
    · skip
      intro y161 ey161
      intro x162 ex162
      refine ⟨fun h164 => ?_, fun h164 => ?_⟩
      · skip
        intro x165 ex165
        refine ⟨fun h167 => ?_, fun h167 => ?_⟩
        · skip
          intro x168 ex168
          refine ⟨fun h170 => ?_, fun h170 => ?_⟩
          · skip
            intro x171 ex171
            refine ⟨fun h173 => ?_, fun h173 => ?_⟩
            · skip
              intro x174 ex174 fx174 gx174
              intro x178 ex178 fx178 gx178
              refine ⟨fun h182 => ?_, fun h182 => ?_⟩
              · skip
                exfalso
                omega
              · skip
                intro g187 eg187
                intro g192 eg192
                have e2 : g192 = blF s0 1 x174 := by
                  rw [eg192, eg187]
                  rfl
                rw [e2]
                exact ⟨MP.bl hs hk (by decide) (by decide), hd.bl (by decide) (by decide), rfl⟩
            · skip
              refine ⟨fun g' => MP s0 g' ∧ DI b0 i g', ?_, ?_⟩
              · skip
                exact v_2327 hd hb hb1 hi1 hk h3 (by decide)
              · skip
                intro g198 rg198 qg198
                have m : MP s0 g198 ∧ DI b0 i g198 := qg198
                exact ⟨m.1, m.2, congrFun (rg198.a (a := 388) (by decide)) b0⟩
          · skip
            refine ⟨fun g' => MP s0 g' ∧ DI b0 i g', ?_, ?_⟩
            · skip
              exact v_2327 hd hb hb1 hi1 hk h3 (by decide)
            · skip
              intro g205 rg205 qg205
              have m : MP s0 g205 ∧ DI b0 i g205 := qg205
              exact ⟨m.1, m.2, congrFun (rg205.a (a := 388) (by decide)) b0⟩
        · skip
          refine ⟨fun g' => MP s0 g' ∧ DI b0 i g', ?_, ?_⟩
          · skip
            exact v_2326 hd hb hb1 hi1 hk h3
          · skip
            intro g212 rg212 qg212
            have m : MP s0 g212 ∧ DI b0 i g212 := qg212
            exact ⟨m.1, m.2, congrFun (rg212.a (a := 388) (by decide)) b0⟩
      · skip
        refine ⟨fun g' => MP s0 g', ?_, ?_⟩
        · skip
          exact v_2325 hs hk h3
        · skip
          intro g219 rg219 qg219
          have m : MP s0 g219 := qg219
          refine ⟨m, hd.fr m.wp rg219 (by decide) (by decide) (by decide) (by decide) (by decide) (by decide) (by decide) (by decide) (by decide) (by decide), congrFun (rg219.a (a := 388) (by decide)) b0⟩
  · skip
    intro y224 ey224
    intro x225 ex225
    refine ⟨fun h227 => ?_, fun h227 => ?_⟩
    · skip
      intro x228 ex228
      refine ⟨fun h230 => ?_, fun h230 => ?_⟩
      · skip
        intro x231 ex231
        refine ⟨fun h233 => ?_, fun h233 => ?_⟩
        · skip
          intro x234 ex234
          refine ⟨fun h236 => ?_, fun h236 => ?_⟩
          · skip
            intro x237 ex237
            refine ⟨fun h239 => ?_, fun h239 => ?_⟩
            · skip
              intro x240 ex240 fx240 gx240
              intro x244 ex244 fx244 gx244
              refine ⟨fun h248 => ?_, fun h248 => ?_⟩
              · skip
                exfalso
                omega
              · skip
                intro g253 eg253
                intro g258 eg258
                have e2 : g258 = blF s0 1 x240 := by
                  rw [eg258, eg253]
                  rfl
                rw [e2]
                exact ⟨MP.bl hs hk (by decide) (by decide), hd.bl (by decide) (by decide), rfl⟩
            · skip
              refine ⟨fun g' => MP s0 g' ∧ DI b0 i g', ?_, ?_⟩
              · skip
                exact v_2327 hd hb hb1 hi1 hk h3 (by decide)
              · skip
                intro g264 rg264 qg264
                have m : MP s0 g264 ∧ DI b0 i g264 := qg264
                exact ⟨m.1, m.2, congrFun (rg264.a (a := 388) (by decide)) b0⟩
          · skip
            refine ⟨fun g' => MP s0 g' ∧ DI b0 i g', ?_, ?_⟩
            · skip
              exact v_2327 hd hb hb1 hi1 hk h3 (by decide)
            · skip
              intro g271 rg271 qg271
              have m : MP s0 g271 ∧ DI b0 i g271 := qg271
              exact ⟨m.1, m.2, congrFun (rg271.a (a := 388) (by decide)) b0⟩
        · skip
          refine ⟨fun g' => MP s0 g' ∧ DI b0 i g', ?_, ?_⟩
          · skip
            exact v_2326 hd hb hb1 hi1 hk h3
          · skip
            intro g278 rg278 qg278
            have m : MP s0 g278 ∧ DI b0 i g278 := qg278
            exact ⟨m.1, m.2, congrFun (rg278.a (a := 388) (by decide)) b0⟩
      · skip
        refine ⟨fun g' => MP s0 g', ?_, ?_⟩
        · skip
          exact v_2325 hs hk h3
        · skip
          intro g285 rg285 qg285
          have m : MP s0 g285 := qg285
          refine ⟨m, hd.fr m.wp rg285 (by decide) (by decide) (by decide) (by decide) (by decide) (by decide) (by decide) (by decide) (by decide) (by decide), congrFun (rg285.a (a := 388) (by decide)) b0⟩
    · skip
      refine ⟨fun g' => MP s0 g' ∧ ∀ k, k ≠ (s0 386 35).toNat → g' 388 k = s0 388 k, ?_, ?_⟩
      · skip
        exact v_2316 hs hk h3
      · skip
        intro g292 rg292 qg292
        have m : MP s0 g292 ∧ _ := qg292
        refine ⟨m.1, hd.fr m.1.wp rg292 (by decide) (by decide) (by decide) (by decide) (by decide) (by decide) (by decide) (by decide) (by decide) (by decide), m.2 b0 (by omega)⟩
set_option maxHeartbeats 4000000 in
theorem v_2339 {a0 : Int} {s0 : zF} (hs : SG s0) : b_2339 s0 a0 (fun g => MP s0 g) := by
  have hz := hs.sz
  refine ⟨fun n g v13_1 v13_2 => n = (s0 386 2 - v13_2).toNat ∧ g = s0 ∧ v13_2 ≤ s0 386 2 ∧ g 386 8 = 0, ?_, ?_⟩
  · skip
    intro x157 ex157 fx157 gx157
    refine ⟨fun h161 => ?_, fun h161 => ?_⟩
    · skip
      exact MP.stop hs (by omega)
    · skip
      intro x162 ex162 fx162 gx162
      exact ⟨_, rfl, rfl, by omega, by omega⟩
  · intro n g v13_1 v13_2 rg qv13_20 qv13_21 hI
    obtain ⟨hn, hg, hv, hk⟩ := hI
    have hsg : SG g := by
      rw [hg]
      exact hs
    have h2 : g 386 2 = s0 386 2 := by rw [hg]
    intro x1 ex1 fx1 gx1
    refine ⟨fun h5 => ?_, fun h5 => ?_⟩
    · skip
      intro x9 ex9 fx9 gx9
      refine ⟨fun h10 => ?_, fun h10 => ?_⟩
      · skip
        refine ⟨fun h14 => ?_, fun h14 => ?_⟩
        · skip
          intro x15 ex15 fx15 gx15
          refine ⟨fun h19 => ?_, fun h19 => ?_⟩
          · skip
            refine ⟨fun g' => MP g g', ?_, ?_⟩
            · skip
              exact v_2340 hsg
            · skip
              intro g25 rg25 qg25
              have m : MP g g25 := qg25
              rw [hg] at m
              exact m
          · skip
            intro x27 ex27
            refine ⟨fun h31 => ?_, fun h31 => ?_⟩
            · skip
              refine ⟨fun g' => MP g g', ?_, ?_⟩
              · skip
                exact v_2340 hsg
              · skip
                intro g37 rg37 qg37
                have m : MP g g37 := qg37
                rw [hg] at m
                exact m
            · skip
              refine ⟨fun h39 => ?_, fun h39 => ?_⟩
              · skip
                refine ⟨fun g' => MP g g', ?_, ?_⟩
                · skip
                  exact v_2340 hsg
                · skip
                  intro g45 rg45 qg45
                  have m : MP g g45 := qg45
                  rw [hg] at m
                  exact m
              · skip
                refine ⟨fun h47 => ?_, fun h47 => ?_⟩
                · skip
                  intro x48 ex48 fx48 gx48
                  refine ⟨fun h52 => ?_, fun h52 => ?_⟩
                  · skip
                    refine ⟨fun g' => MP g g', ?_, ?_⟩
                    · skip
                      exact v_2340 hsg
                    · skip
                      intro g58 rg58 qg58
                      have m : MP g g58 := qg58
                      rw [hg] at m
                      exact m
                  · skip
                    intro g64 eg64
                    intro g69 eg69
                    refine ⟨fun g' => MP g69 g', ?_, ?_⟩
                    · skip
                      have e2 : g69 = blF g 5 v13_2 := by
                        rw [eg69, eg64]
                        rfl
                      rw [e2]
                      exact v_2340 (blF_sg hsg (by decide) (by decide))
                    · skip
                      intro g75 rg75 qg75
                      have e2 : g69 = blF g 5 v13_2 := by
                        rw [eg69, eg64]
                        rfl
                      have m : MP g69 g75 := qg75
                      rw [e2, hg] at m
                      rw [hg] at hk
                      exact (MP.bl hs hk (by decide) (by decide)).trans m.wp
                · skip
                  refine ⟨fun g' => MP g g', ?_, ?_⟩
                  · skip
                    exact v_2340 hsg
                  · skip
                    intro g82 rg82 qg82
                    have m : MP g g82 := qg82
                    rw [hg] at m
                    exact m
        · skip
          intro x84 ex84
          exact ⟨_, by omega, rfl, hg, by omega, hk⟩
      · skip
        intro x86 ex86
        exact ⟨_, by omega, rfl, hg, by omega, hk⟩
    · skip
      intro x88 ex88 fx88 gx88
      refine ⟨fun h92 => ?_, fun h92 => ?_⟩
      · skip
        refine ⟨fun g' => MP g g', ?_, ?_⟩
        · skip
          exact v_2340 hsg
        · skip
          intro g98 rg98 qg98
          have m : MP g g98 := qg98
          rw [hg] at m
          exact m
      · skip
        intro x100 ex100
        refine ⟨fun h104 => ?_, fun h104 => ?_⟩
        · skip
          refine ⟨fun g' => MP g g', ?_, ?_⟩
          · skip
            exact v_2340 hsg
          · skip
            intro g110 rg110 qg110
            have m : MP g g110 := qg110
            rw [hg] at m
            exact m
        · skip
          refine ⟨fun h112 => ?_, fun h112 => ?_⟩
          · skip
            refine ⟨fun g' => MP g g', ?_, ?_⟩
            · skip
              exact v_2340 hsg
            · skip
              intro g118 rg118 qg118
              have m : MP g g118 := qg118
              rw [hg] at m
              exact m
          · skip
            refine ⟨fun h120 => ?_, fun h120 => ?_⟩
            · skip
              intro x121 ex121 fx121 gx121
              refine ⟨fun h125 => ?_, fun h125 => ?_⟩
              · skip
                refine ⟨fun g' => MP g g', ?_, ?_⟩
                · skip
                  exact v_2340 hsg
                · skip
                  intro g131 rg131 qg131
                  have m : MP g g131 := qg131
                  rw [hg] at m
                  exact m
              · skip
                intro g137 eg137
                intro g142 eg142
                refine ⟨fun g' => MP g142 g', ?_, ?_⟩
                · skip
                  have e2 : g142 = blF g 5 v13_2 := by
                    rw [eg142, eg137]
                    rfl
                  rw [e2]
                  exact v_2340 (blF_sg hsg (by decide) (by decide))
                · skip
                  intro g148 rg148 qg148
                  have e2 : g142 = blF g 5 v13_2 := by
                    rw [eg142, eg137]
                    rfl
                  have m : MP g142 g148 := qg148
                  rw [e2, hg] at m
                  rw [hg] at hk
                  exact (MP.bl hs hk (by decide) (by decide)).trans m.wp
            · skip
              refine ⟨fun g' => MP g g', ?_, ?_⟩
              · skip
                exact v_2340 hsg
              · skip
                intro g155 rg155 qg155
                have m : MP g g155 := qg155
                rw [hg] at m
                exact m
