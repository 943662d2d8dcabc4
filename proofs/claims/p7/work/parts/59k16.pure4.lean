/-! pure proofs (wip/safe/vcp.py) -/
set_option maxHeartbeats 4000000 in
theorem v_2422 {s0 : zF} {a0 a1 a2 : Int} (h : ZR s0) (hx : BX s0) : b_2422 s0 a0 a1 a2 (fun _ g => ZR g) := by
  refine ⟨fun n g v52_1 v52_2 v52_3 v52_4 v52_5 v52_6 => n = (1000 * (30 - v52_6) + 900).toNat ∧ ZR g ∧ BX g, fun n g v67_1 v67_2 v67_3 v67_4 v67_5 v67_6 v67_7 => n = (1000 * (30 - v67_6) + 500 - v67_7).toNat ∧ ZR g ∧ BX g, fun n g v102_1 v102_2 v102_3 v102_4 v102_5 v102_6 v102_7 v102_8 => n = (1000 * (30 - v102_6) + 100 - v102_8).toNat ∧ ZR g ∧ BX g, ?_, ?_, ?_, ?_⟩
  · skip
    refine ⟨fun h84 => ?_, fun h84 => ?_⟩
    · skip
      exact h
    · skip
      refine ⟨fun h85 => ?_, fun h85 => ?_⟩
      · skip
        exact h
      · skip
        refine ⟨fun h86 => ?_, fun h86 => ?_⟩
        · skip
          exact h
        · skip
          refine ⟨fun h87 => ?_, fun h87 => ?_⟩
          · skip
            exact h
          · skip
            refine ⟨fun h88 => ?_, fun h88 => ?_⟩
            · skip
              exact h
            · skip
              refine ⟨fun h89 => ?_, fun h89 => ?_⟩
              · skip
                exact h
              · skip
                intro x90 ex90 fx90 gx90
                intro x97 ex97 fx97 gx97
                refine ⟨fun h98 => ?_, fun h98 => ?_⟩
                · skip
                  intro g103 eg103
                  have F : zFr [(386, 387, 75)] s0 g103 := by
                    rw [eg103]
                    exact zFr_zup zFr_refl (zINs_ok (by decide))
                  exact ⟨_, rfl, h.fr F rfl, hx.fr F rfl⟩
                · skip
                  exact h
  · intro n g v52_1 v52_2 v52_3 v52_4 v52_5 v52_6 rg qv52_10 qv52_11 qv52_20 qv52_21 qv52_30 qv52_31 qv52_60 qv52_61 hI
    obtain ⟨hn, hz, hb⟩ := hI
    refine ⟨fun h1 => ?_, fun h1 => ?_⟩
    · skip
      refine ⟨fun g' => CPY g 1 0 g', ?_, ?_⟩
      · skip
        exact v_2347 (by decide) (by decide) (by decide)
      · skip
        intro g7 rg7 qg7
        have c : CPY g 1 0 g7 := qg7
        exact ⟨_, by omega, rfl, hz.cpy1 hb c rg7, by
          unfold BX at hb ⊢
          rw [rg7.a (a := 388) (by decide), rg7.s (a := 386) (k := 64) (by decide), rg7.s (a := 386) (k := 65) (by decide)]
          exact hb⟩
    · skip
      refine ⟨fun h9 => ?_, fun h9 => ?_⟩
      · skip
        refine ⟨fun h10 => ?_, fun h10 => ?_⟩
        · skip
          exact hz
        · skip
          exact hz
      · skip
        intro x11 ex11
        exact hz
  · intro n g v67_1 v67_2 v67_3 v67_4 v67_5 v67_6 v67_7 rg qv67_10 qv67_11 qv67_20 qv67_21 qv67_30 qv67_31 qv67_60 qv67_61 qv67_70 qv67_71 hI
    obtain ⟨hn, hz, hb⟩ := hI
    refine ⟨fun h15 => ?_, fun h15 => ?_⟩
    · skip
      intro x19 ex19
      refine ⟨fun h20 => ?_, fun h20 => ?_⟩
      · skip
        refine ⟨fun _ => True, ?_, ?_⟩
        · skip
          exact v_2378 hz.ia (by decide)
        · skip
          intro g26 rg26 qg26
          intro x28 ex28
          exact ⟨_, by omega, rfl, hz.fr rg26 rfl, hb.fr rg26 rfl⟩
      · skip
        exact ⟨_, by omega, rfl, hz, hb⟩
    · skip
      exact ⟨_, by omega, rfl, hz, hb⟩
  · intro n g v102_1 v102_2 v102_3 v102_4 v102_5 v102_6 v102_7 v102_8 rg qv102_10 qv102_11 qv102_20 qv102_21 qv102_30 qv102_31 qv102_60 qv102_61 qv102_70 qv102_71 qv102_80 qv102_81 hI
    obtain ⟨hn, hz, hb⟩ := hI
    intro x30 ex30 fx30 gx30
    intro x37 ex37 fx37 gx37
    refine ⟨fun h38 => ?_, fun h38 => ?_⟩
    · skip
      intro x39 ex39
      intro x44 ex44 fx44 gx44
      intro x45 ex45
      intro x47 
      refine ⟨fun h48 => ?_, fun h48 => ?_⟩
      · skip
        intro x49 ex49
        intro x51 ex51
        intro x56 ex56 fx56 gx56
        intro x57 ex57 fx57
        refine ⟨fun h60 => ?_, fun h60 => ?_⟩
        · skip
          intro x61 ex61
          exact ⟨_, by omega, rfl, hz, hb⟩
        · skip
          intro x63 ex63
          intro x68 ex68 fx68 gx68
          refine ⟨fun h69 => ?_, fun h69 => ?_⟩
          · skip
            intro x70 ex70
            exact ⟨_, by omega, rfl, hz, hb⟩
          · skip
            intro x72 ex72
            exact ⟨_, by omega, rfl, hz, hb⟩
      · skip
        intro x74 ex74
        exact ⟨_, by omega, rfl, hz, hb⟩
    · skip
      refine ⟨fun h76 => ?_, fun h76 => ?_⟩
      · skip
        intro x77 
        intro x78 ex78
        exact ⟨_, by omega, rfl, hz, hb⟩
      · skip
        intro x80 ex80
        intro x82 ex82
        exact ⟨_, by omega, rfl, hz, hb⟩
