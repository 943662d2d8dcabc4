/-! pure proofs (wip/safe/vcp.py) -/
set_option maxHeartbeats 4000000 in
theorem v_2340 {a0 : Int} {s0 : zF} (hs : SG s0) : b_2340 s0 a0 (fun g => MP s0 g) := by
  have hz := hs.sz
  unfold b_2340
  intro x1 ex1 fx1 gx1
  refine ⟨fun h5 => ?_, fun h5 => ?_⟩
  · skip
    intro x6 ex6 fx6 gx6
    intro x10 ex10 fx10 gx10
    refine ⟨fun h14 => ?_, fun h14 => ?_⟩
    · skip
      exact MP.stop hs (by omega)
    · skip
      intro g19 eg19
      intro g24 eg24
      have e2 : g24 = blF s0 1 x6 := by
        rw [eg24, eg19]
        rfl
      rw [e2]
      exact MP.bl hs (by omega) (by decide) (by decide)
  · skip
    intro x26 ex26
    refine ⟨fun h30 => ?_, fun h30 => ?_⟩
    · skip
      intro x31 ex31 fx31 gx31
      intro x35 ex35 fx35 gx35
      refine ⟨fun h39 => ?_, fun h39 => ?_⟩
      · skip
        exact MP.stop hs (by omega)
      · skip
        intro g44 eg44
        intro g49 eg49
        have e2 : g49 = blF s0 1 x31 := by
          rw [eg49, eg44]
          rfl
        rw [e2]
        exact MP.bl hs (by omega) (by decide) (by decide)
    · skip
      intro x51 ex51 fx51 gx51
      refine ⟨fun h55 => ?_, fun h55 => ?_⟩
      · skip
        exact MP.stop hs (by omega)
      · skip
        refine ⟨fun g' => AP s0 g', ?_, ?_⟩
        · skip
          exact v_2310 (SG.ap hs)
        · skip
          intro g61 rg61 qg61
          have a2 : AP s0 g61 := qg61
          exact AP.mp hs (by omega) a2
set_option maxHeartbeats 4000000 in
theorem v_2321 {a0 : Int} {s0 : zF} (hs : SG s0) : b_2321 s0 a0 (fun g => MP s0 g) := by
  have hz := hs.sz
  unfold b_2321
  intro x1 ex1 fx1 gx1
  refine ⟨fun h5 => ?_, fun h5 => ?_⟩
  · skip
    exact MP.stop hs (by omega)
  · skip
    intro x6 ex6 fx6 gx6
    refine ⟨fun h10 => ?_, fun h10 => ?_⟩
    · skip
      intro x11 ex11 fx11 gx11
      intro g19 eg19
      intro g24 eg24
      have e2 : g24 = blF s0 1 x11 := by
        rw [eg24, eg19]
        rfl
      rw [e2]
      exact MP.bl hs (by omega) (by decide) (by decide)
    · skip
      intro y29 ey29
      intro x30 ex30
      refine ⟨fun h32 => ?_, fun h32 => ?_⟩
      · skip
        intro x33 ex33 fx33 gx33
        intro g41 eg41
        intro g46 eg46
        have e2 : g46 = blF s0 1 x33 := by
          rw [eg46, eg41]
          rfl
        rw [e2]
        exact MP.bl hs (by omega) (by decide) (by decide)
      · skip
        refine ⟨fun g' => AP s0 g', ?_, ?_⟩
        · skip
          exact v_2310 (SG.ap hs)
        · skip
          intro g53 rg53 qg53
          have a2 : AP s0 g53 := qg53
          exact AP.mp hs (by omega) a2
set_option maxHeartbeats 4000000 in
theorem v_2322 {a0 a1 : Int} {s0 : zF} (hs : SG s0) : b_2322 s0 a0 a1 (fun v g => MP s0 g ∧ NBd (g 386 8) a0 v a1) := by
  have hz := hs.sz
  unfold b_2322
  intro x1 ex1 fx1 gx1
  refine ⟨fun h5 => ?_, fun h5 => ?_⟩
  · skip
    exact ⟨MP.stop hs (by omega), fun z => by omega⟩
  · skip
    intro x6 ex6 fx6 gx6
    refine ⟨fun h10 => ?_, fun h10 => ?_⟩
    · skip
      intro x11 ex11 fx11 gx11
      intro g19 eg19
      intro g24 eg24
      intro x26 ex26
      have e2 : g24 = blF s0 1 x11 := by
        rw [eg24, eg19]
        rfl
      rw [e2]
      exact ⟨MP.bl hs (by omega) (by decide) (by decide), fun z => absurd (show (1 : Int) = 0 from z) (by decide)⟩
    · skip
      intro x30 ex30
      refine ⟨fun h34 => ?_, fun h34 => ?_⟩
      · skip
        intro x35 ex35 fx35 gx35
        intro g43 eg43
        intro g48 eg48
        have e2 : g48 = blF s0 4 x35 := by
          rw [eg48, eg43]
          rfl
        rw [e2]
        exact ⟨MP.bl hs (by omega) (by decide) (by decide), fun z => absurd (show (4 : Int) = 0 from z) (by decide)⟩
      · skip
        refine ⟨fun h51 => ?_, fun h51 => ?_⟩
        · skip
          intro x52 ex52 fx52 gx52
          intro g60 eg60
          intro g65 eg65
          have e2 : g65 = blF s0 4 x52 := by
            rw [eg65, eg60]
            rfl
          rw [e2]
          exact ⟨MP.bl hs (by omega) (by decide) (by decide), fun z => absurd (show (4 : Int) = 0 from z) (by decide)⟩
        · skip
          refine ⟨fun g' => AP s0 g', ?_, ?_⟩
          · skip
            exact v_2310 (SG.ap hs)
          · skip
            intro g73 rg73 qg73
            have a2 : AP s0 g73 := qg73
            exact ⟨AP.mp hs (by omega) a2, fun _ => by omega⟩
set_option maxHeartbeats 4000000 in
theorem v_2318 {s0 : zF} (hs : SG s0) : b_2318 s0 (fun _ g => MP s0 g) := by
  have hz := hs.sz
  unfold b_2318
  intro x1 ex1 fx1 gx1
  refine ⟨fun h5 => ?_, fun h5 => ?_⟩
  · skip
    exact MP.stop hs (by omega)
  · skip
    intro x6 ex6 fx6 gx6
    refine ⟨fun h10 => ?_, fun h10 => ?_⟩
    · skip
      intro x11 ex11 fx11 gx11
      intro g19 eg19
      intro g24 eg24
      intro y29 ey29
      have e2 : g24 = blF s0 1 x11 := by
        rw [eg24, eg19]
        rfl
      rw [e2]
      exact MP.bl hs (by omega) (by decide) (by decide)
    · skip
      intro y33 ey33
      intro x37 hx371 hx372 g40 rg40 
      refine ⟨fun h42 => ?_, fun h42 => ?_⟩
      · skip
        intro x43 ex43 fx43 gx43
        intro g52 eg52
        intro g57 eg57
        have z1 : g40 = s0 := zFr_nil rg40
        have e2 : g57 = blF s0 1 x43 := by
          rw [eg57, eg52, z1]
          rfl
        rw [e2]
        exact MP.bl hs (by omega) (by decide) (by decide)
      · skip
        intro x65 hx651 hx652 g68 rg68 
        refine ⟨fun h70 => ?_, fun h70 => ?_⟩
        · skip
          intro x71 ex71 fx71 gx71
          intro g80 eg80
          intro g85 eg85
          have z1 : g40 = s0 := zFr_nil rg40
          have z2 : g68 = s0 := (zFr_nil rg68).trans z1
          have e2 : g85 = blF s0 2 x71 := by
            rw [eg85, eg80, z2]
            rfl
          rw [e2]
          exact MP.bl hs (by omega) (by decide) (by decide)
        · skip
          refine ⟨fun g' => AP g68 g', ?_, ?_⟩
          · skip
            have z1 : g40 = s0 := zFr_nil rg40
            have z2 : g68 = s0 := (zFr_nil rg68).trans z1
            rw [z2]
            exact v_2310 (SG.ap hs)
          · skip
            intro g95 rg95 qg95
            have z1 : g40 = s0 := zFr_nil rg40
            have z2 : g68 = s0 := (zFr_nil rg68).trans z1
            have a2 : AP g68 g95 := qg95
            rw [z2] at a2
            exact AP.mp hs (by omega) a2
