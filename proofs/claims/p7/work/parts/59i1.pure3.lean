/-! pure proofs (wip/safe/vcp.py) -/
set_option maxHeartbeats 4000000 in
theorem v_2319 {s0 : zF} {a0 : Int} : b_2319 s0 a0 (fun _ _ => True) := by
  unfold b_2319
  intro x1 ex1
  refine ⟨fun h3 => ?_, fun h3 => ?_⟩
  · skip
    intro x4 ex4
    refine ⟨fun h6 => ?_, fun h6 => ?_⟩
    · skip
      intro x7 ex7
      refine ⟨fun h9 => ?_, fun h9 => ?_⟩
      · skip
        intro x10 ex10
        refine ⟨fun h12 => ?_, fun h12 => ?_⟩
        · skip
          intro x13 ex13
          refine ⟨fun h15 => ?_, fun h15 => ?_⟩
          · skip
            intro x16 ex16
            refine ⟨fun h18 => ?_, fun h18 => ?_⟩
            · skip
              intro x19 ex19
              refine ⟨fun h21 => ?_, fun h21 => ?_⟩
              · skip
                intro x22 ex22
                refine ⟨fun h24 => ?_, fun h24 => ?_⟩
                · skip
                  intro x25 ex25
                  refine ⟨fun h27 => ?_, fun h27 => ?_⟩
                  · skip
                    intro x28 ex28
                    refine ⟨fun h30 => ?_, fun h30 => ?_⟩
                    · skip
                      intro x31 ex31
                      refine ⟨fun h33 => ?_, fun h33 => ?_⟩
                      · skip
                        intro x34 ex34
                        refine ⟨fun h36 => ?_, fun h36 => ?_⟩
                        · skip
                          intro x37 ex37
                          refine ⟨fun h39 => ?_, fun h39 => ?_⟩
                          · skip
                            intro x40 ex40
                            refine ⟨fun h42 => ?_, fun h42 => ?_⟩
                            · skip
                              intro x43 ex43
                              refine ⟨fun h45 => ?_, fun h45 => ?_⟩
                              · skip
                                intro x46 ex46
                                refine ⟨fun h48 => ?_, fun h48 => ?_⟩
                                · skip
                                  intro x49 ex49
                                  refine ⟨fun h51 => ?_, fun h51 => ?_⟩
                                  · skip
                                    intro x52 ex52
                                    refine ⟨fun h54 => ?_, fun h54 => ?_⟩
                                    · skip
                                      intro x55 ex55
                                      refine ⟨fun h57 => ?_, fun h57 => ?_⟩
                                      · skip
                                        intro x58 ex58
                                        refine ⟨fun h60 => ?_, fun h60 => ?_⟩
                                        · skip
                                          intro x61 ex61
                                          refine ⟨fun h63 => ?_, fun h63 => ?_⟩
                                          · skip
                                            intro x64 ex64
                                            refine ⟨fun h66 => ?_, fun h66 => ?_⟩
                                            · skip
                                              intro x67 ex67
                                              refine ⟨fun h69 => ?_, fun h69 => ?_⟩
                                              · skip
                                                intro x70 ex70
                                                refine ⟨fun h72 => ?_, fun h72 => ?_⟩
                                                · skip
                                                  intro x73 ex73
                                                  refine ⟨fun h75 => ?_, fun h75 => ?_⟩
                                                  · skip
                                                    intro x76 ex76
                                                    refine ⟨fun h78 => ?_, fun h78 => ?_⟩
                                                    · skip
                                                      intro x79 ex79
                                                      refine ⟨fun h81 => ?_, fun h81 => ?_⟩
                                                      · skip
                                                        trivial
                                                      · skip
                                                        trivial
                                                    · skip
                                                      trivial
                                                  · skip
                                                    trivial
                                                · skip
                                                  trivial
                                              · skip
                                                trivial
                                            · skip
                                              trivial
                                          · skip
                                            trivial
                                        · skip
                                          trivial
                                      · skip
                                        trivial
                                    · skip
                                      trivial
                                  · skip
                                    trivial
                                · skip
                                  trivial
                              · skip
                                trivial
                            · skip
                              trivial
                          · skip
                            trivial
                        · skip
                          trivial
                      · skip
                        trivial
                    · skip
                      trivial
                  · skip
                    trivial
                · skip
                  trivial
              · skip
                trivial
            · skip
              trivial
          · skip
            trivial
        · skip
          trivial
      · skip
        trivial
    · skip
      trivial
  · skip
    trivial
set_option maxHeartbeats 4000000 in
theorem v_2320 {s0 : zF} {a0 : Int} : b_2320 s0 a0 (fun _ _ => True) := by
  refine ⟨fun n g y2_1 v2_3 => n = (200 - v2_3).toNat, fun n g y44_1 v44_3 => n = (100 - v44_3).toNat, ?_, ?_, ?_⟩
  · skip
    exact ⟨_, rfl⟩
  · intro n g y2_1 v2_3 rg qv2_30 qv2_31 hI
    intro x1 ex1 fx1 gx1
    intro x8 ex8 fx8 gx8
    refine ⟨fun h9 => ?_, fun h9 => ?_⟩
    · skip
      intro x10 ex10
      intro x12 ex12
      intro y17 ey17
      intro x18 ex18
      refine ⟨fun h20 => ?_, fun h20 => ?_⟩
      · skip
        intro x21 ex21
        exact ⟨_, by omega, rfl⟩
      · skip
        trivial
    · skip
      exact ⟨_, by omega, rfl⟩
  · intro n g y44_1 v44_3 rg qv44_30 qv44_31 hI
    intro x23 ex23 fx23 gx23
    intro x30 ex30 fx30 gx30
    refine ⟨fun h31 => ?_, fun h31 => ?_⟩
    · skip
      intro x32 ex32
      intro x34 ex34
      intro y39 ey39
      intro x40 ex40
      refine ⟨fun h42 => ?_, fun h42 => ?_⟩
      · skip
        intro x43 ex43
        exact ⟨_, by omega, rfl⟩
      · skip
        trivial
    · skip
      trivial
set_option maxHeartbeats 4000000 in
theorem v_2340 {a0 : Int} {s0 : zF} (hs : SG s0) : b_2340 s0 a0 (fun g => MP s0 g) := by
  have hz := hs.sz
  unfold b_2340
  intro x1 ex1 fx1 gx1
  refine ⟨fun h5 => ?_, fun h5 => ?_⟩
  · skip
    intro x6 ex6 fx6 gx6
    intro x10 ex10 fx10 gx10
    refine ⟨fun h14 => ?_, fun h14 => ?_⟩
    · skip
      exact MP.stop hs (by omega)
    · skip
      intro g19 eg19
      intro g24 eg24
      have e2 : g24 = blF s0 1 x6 := by
        rw [eg24, eg19]
        rfl
      rw [e2]
      exact MP.bl hs (by omega) (by decide) (by decide)
  · skip
    intro x26 ex26
    refine ⟨fun h30 => ?_, fun h30 => ?_⟩
    · skip
      intro x31 ex31 fx31 gx31
      intro x35 ex35 fx35 gx35
      refine ⟨fun h39 => ?_, fun h39 => ?_⟩
      · skip
        exact MP.stop hs (by omega)
      · skip
        intro g44 eg44
        intro g49 eg49
        have e2 : g49 = blF s0 1 x31 := by
          rw [eg49, eg44]
          rfl
        rw [e2]
        exact MP.bl hs (by omega) (by decide) (by decide)
    · skip
      intro x51 ex51 fx51 gx51
      refine ⟨fun h55 => ?_, fun h55 => ?_⟩
      · skip
        exact MP.stop hs (by omega)
      · skip
        refine ⟨fun g' => AP s0 g', ?_, ?_⟩
        · skip
          exact v_2310 (SG.ap hs)
        · skip
          intro g61 rg61 qg61
          have a2 : AP s0 g61 := qg61
          exact AP.mp hs (by omega) a2
set_option maxHeartbeats 4000000 in
theorem v_2321 {a0 : Int} {s0 : zF} (hs : SG s0) : b_2321 s0 a0 (fun g => MP s0 g) := by
  have hz := hs.sz
  unfold b_2321
  intro x1 ex1 fx1 gx1
  refine ⟨fun h5 => ?_, fun h5 => ?_⟩
  · skip
    exact MP.stop hs (by omega)
  · skip
    intro x6 ex6 fx6 gx6
    refine ⟨fun h10 => ?_, fun h10 => ?_⟩
    · skip
      intro x11 ex11 fx11 gx11
      intro g19 eg19
      intro g24 eg24
      have e2 : g24 = blF s0 1 x11 := by
        rw [eg24, eg19]
        rfl
      rw [e2]
      exact MP.bl hs (by omega) (by decide) (by decide)
    · skip
      intro y29 ey29
      intro x30 ex30
      refine ⟨fun h32 => ?_, fun h32 => ?_⟩
      · skip
        intro x33 ex33 fx33 gx33
        intro g41 eg41
        intro g46 eg46
        have e2 : g46 = blF s0 1 x33 := by
          rw [eg46, eg41]
          rfl
        rw [e2]
        exact MP.bl hs (by omega) (by decide) (by decide)
      · skip
        refine ⟨fun g' => AP s0 g', ?_, ?_⟩
        · skip
          exact v_2310 (SG.ap hs)
        · skip
          intro g53 rg53 qg53
          have a2 : AP s0 g53 := qg53
          exact AP.mp hs (by omega) a2
set_option maxHeartbeats 4000000 in
theorem v_2322 {a0 a1 : Int} {s0 : zF} (hs : SG s0) : b_2322 s0 a0 a1 (fun v g => MP s0 g ∧ NBd (g 386 8) a0 v a1) := by
  have hz := hs.sz
  unfold b_2322
  intro x1 ex1 fx1 gx1
  refine ⟨fun h5 => ?_, fun h5 => ?_⟩
  · skip
    exact ⟨MP.stop hs (by omega), fun z => by omega⟩
  · skip
    intro x6 ex6 fx6 gx6
    refine ⟨fun h10 => ?_, fun h10 => ?_⟩
    · skip
      intro x11 ex11 fx11 gx11
      intro g19 eg19
      intro g24 eg24
      intro x26 ex26
      have e2 : g24 = blF s0 1 x11 := by
        rw [eg24, eg19]
        rfl
      rw [e2]
      exact ⟨MP.bl hs (by omega) (by decide) (by decide), fun z => absurd (show (1 : Int) = 0 from z) (by decide)⟩
    · skip
      intro x30 ex30
      refine ⟨fun h34 => ?_, fun h34 => ?_⟩
      · skip
        intro x35 ex35 fx35 gx35
        intro g43 eg43
        intro g48 eg48
        have e2 : g48 = blF s0 4 x35 := by
          rw [eg48, eg43]
          rfl
        rw [e2]
        exact ⟨MP.bl hs (by omega) (by decide) (by decide), fun z => absurd (show (4 : Int) = 0 from z) (by decide)⟩
      · skip
        refine ⟨fun h51 => ?_, fun h51 => ?_⟩
        · skip
          intro x52 ex52 fx52 gx52
          intro g60 eg60
          intro g65 eg65
          have e2 : g65 = blF s0 4 x52 := by
            rw [eg65, eg60]
            rfl
          rw [e2]
          exact ⟨MP.bl hs (by omega) (by decide) (by decide), fun z => absurd (show (4 : Int) = 0 from z) (by decide)⟩
        · skip
          refine ⟨fun g' => AP s0 g', ?_, ?_⟩
          · skip
            exact v_2310 (SG.ap hs)
          · skip
            intro g73 rg73 qg73
            have a2 : AP s0 g73 := qg73
            exact ⟨AP.mp hs (by omega) a2, fun _ => by omega⟩
set_option maxHeartbeats 4000000 in
theorem v_2318 {s0 : zF} (hs : SG s0) : b_2318 s0 (fun _ g => MP s0 g) := by
  have hz := hs.sz
  unfold b_2318
  intro x1 ex1 fx1 gx1
  refine ⟨fun h5 => ?_, fun h5 => ?_⟩
  · skip
    exact MP.stop hs (by omega)
  · skip
    intro x6 ex6 fx6 gx6
    refine ⟨fun h10 => ?_, fun h10 => ?_⟩
    · skip
      intro x11 ex11 fx11 gx11
      intro g19 eg19
      intro g24 eg24
      intro y29 ey29
      have e2 : g24 = blF s0 1 x11 := by
        rw [eg24, eg19]
        rfl
      rw [e2]
      exact MP.bl hs (by omega) (by decide) (by decide)
    · skip
      intro y33 ey33
      refine ⟨fun _ _ => True, ?_, ?_⟩
      · skip
        exact v_2319
      · skip
        intro x39 hx391 hx392 g42 rg42 qg42
        refine ⟨fun h44 => ?_, fun h44 => ?_⟩
        · skip
          intro x45 ex45 fx45 gx45
          intro g54 eg54
          intro g59 eg59
          have z1 : g42 = s0 := zFr_nil rg42
          have e2 : g59 = blF s0 1 x45 := by
            rw [eg59, eg54, z1]
            rfl
          rw [e2]
          exact MP.bl hs (by omega) (by decide) (by decide)
        · skip
          refine ⟨fun _ _ => True, ?_, ?_⟩
          · skip
            exact v_2320
          · skip
            intro x69 hx691 hx692 g72 rg72 qg72
            refine ⟨fun h74 => ?_, fun h74 => ?_⟩
            · skip
              intro x75 ex75 fx75 gx75
              intro g84 eg84
              intro g89 eg89
              have z1 : g42 = s0 := zFr_nil rg42
              have z2 : g72 = s0 := (zFr_nil rg72).trans z1
              have e2 : g89 = blF s0 2 x75 := by
                rw [eg89, eg84, z2]
                rfl
              rw [e2]
              exact MP.bl hs (by omega) (by decide) (by decide)
            · skip
              refine ⟨fun g' => AP g72 g', ?_, ?_⟩
              · skip
                have z1 : g42 = s0 := zFr_nil rg42
                have z2 : g72 = s0 := (zFr_nil rg72).trans z1
                rw [z2]
                exact v_2310 (SG.ap hs)
              · skip
                intro g99 rg99 qg99
                have z1 : g42 = s0 := zFr_nil rg42
                have z2 : g72 = s0 := (zFr_nil rg72).trans z1
                have a2 : AP g72 g99 := qg99
                rw [z2] at a2
                exact AP.mp hs (by omega) a2
