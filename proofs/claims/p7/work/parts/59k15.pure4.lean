/-! pure proofs (wip/safe/vcp.py) -/
set_option maxHeartbeats 4000000 in
theorem v_2413 {s0 : zF} {a0 a1 : Int} (h : ZR s0) (h0 : 0 ≤ a0 ∧ a0 < s0 388 (s0 386 12).toNat) : b_2413 s0 a0 a1 (fun _ _ => True) := by
  refine ⟨fun n g v41_1 v41_2 v41_3 => n = (100 - v41_3).toNat, ?_, ?_⟩
  · skip
    intro x38 ex38 fx38 gx38
    intro x42 ex42
    intro x44 ex44
    intro x49 ex49 fx49 gx49
    intro x50 ex50 fx50
    refine ⟨fun h53 => ?_, fun h53 => ?_⟩
    · skip
      trivial
    · skip
      refine ⟨fun g' => RN s0 0 g', ?_, ?_⟩
      · skip
        exact v_2363 (by decide)
      · skip
        intro g59 rg59 qg59
        refine ⟨fun v g' => g' = g59 ∧ ((∃ p : Nat, (p : Int) < g59 388 (g59 386 12).toNat ∧ g59 419 (12 * (0 : Int).toNat + p) = a0) → 0 ≤ v), ?_, ?_⟩
        · skip
          exact v_2354 (by decide)
        · skip
          intro x66 hx661 hx662 g69 rg69 qg69
          intro x72 ex72
          intro x74 ex74
          intro x79 ex79
          have oh80 : (0 ≤ x66) := by
            have q2 := (qg69 : g69 = g59 ∧ _).2
            refine q2 ?_
            rw [rg59.a (a := 388) (by decide), rg59.s (a := 386) (k := 12) (by decide), rg59.a (a := 419) (by decide)]
            exact h.at h0.1 h0.2
          refine ⟨oh80, ?_⟩
          have oh83 : zIa g69 := by
            have F0 : zFr [(416, 418, 1000), (434, 436, 1000), (386, 387, 70), (386, 387, 71), (386, 387, 72), (386, 387, 74)] s0 s0 := zFr_refl
            have F1 : zFr [(416, 418, 1000), (434, 436, 1000), (386, 387, 70), (386, 387, 71), (386, 387, 72), (386, 387, 74)] s0 g59 := F0.trans (rg59.mono (by decide))
            have F2 : zFr [(416, 418, 1000), (434, 436, 1000), (386, 387, 70), (386, 387, 71), (386, 387, 72), (386, 387, 74)] s0 g69 := F1.trans (rg69.mono (by decide))
            exact zIa_fr h.ia F2 rfl
          refine ⟨oh83, ?_⟩
          intro g85 rg85 
          exact ⟨_, rfl⟩
  · intro n g v41_1 v41_2 v41_3 rg qv41_10 qv41_11 qv41_20 qv41_21 qv41_30 qv41_31 hI
    have hn := hI
    intro x1 ex1 fx1 gx1
    intro x8 ex8 fx8 gx8
    refine ⟨fun h9 => ?_, fun h9 => ?_⟩
    · skip
      intro x13 ex13 fx13
      intro x17 ex17
      refine ⟨fun h18 => ?_, fun h18 => ?_⟩
      · skip
        trivial
      · skip
        intro x19 ex19
        exact ⟨_, by omega, rfl⟩
    · skip
      intro x21 ex21
      intro x23 ex23
      intro x28 ex28
      intro x29 ex29
      intro x31 ex31
      intro x36 ex36
      intro x37 
      trivial
set_option maxHeartbeats 4000000 in
theorem v_2412 {s0 : zF} (h : ZR s0) : b_2412 s0 (fun _ _ => True) := by
  refine ⟨fun n g v4_1 v4_2 => n = (1000 * (30 - v4_2)).toNat ∧ 0 ≤ v4_2, fun n g v14_1 v14_2 v14_3 => n = (1000 * (30 - v14_2) - 100 - v14_3).toNat ∧ 0 ≤ v14_2 ∧ v14_2 < s0 388 (s0 386 12).toNat, ?_, ?_, ?_⟩
  · skip
    exact ⟨_, rfl, by decide⟩
  · intro n g v4_1 v4_2 rg qv4_20 qv4_21 hI
    obtain ⟨hn, hv⟩ := hI
    intro x1 ex1 fx1 gx1
    intro x8 ex8 fx8 gx8
    refine ⟨fun h9 => ?_, fun h9 => ?_⟩
    · skip
      have eN : x8 = s0 388 (s0 386 12).toNat := by
        rw [ex8, ex1, rg.a (a := 388) (by decide), rg.s (a := 386) (k := 12) (by decide)]
      exact ⟨_, by omega, rfl, hv, by omega⟩
    · skip
      trivial
  · intro n g v14_1 v14_2 v14_3 rg qv14_20 qv14_21 qv14_30 qv14_31 hI
    obtain ⟨hn, hv, hv2⟩ := hI
    intro x10 ex10 fx10 gx10
    intro x17 ex17 fx17 gx17
    refine ⟨fun h18 => ?_, fun h18 => ?_⟩
    · skip
      refine ⟨fun _ _ => True, ?_, ?_⟩
      · skip
        exact v_2413 (h.fr rg rfl) ⟨hv, by rw [rg.a (a := 388) (by decide), rg.s (a := 386) (k := 12) (by decide)]; exact hv2⟩
      · skip
        intro x24 g27 rg27 qg27
        intro x29 
        intro x30 ex30
        exact ⟨_, by omega, rfl, hv, hv2⟩
    · skip
      intro x32 ex32
      exact ⟨_, by omega, rfl, by omega⟩
set_option maxHeartbeats 4000000 in
theorem v_2411 {s0 : zF} {a0 a1 : Int} (h : ZR s0) : b_2411 s0 a0 a1 (fun _ g => ZR g) := by
  refine ⟨fun n g v21_1 v21_2 => n = 1000 ∧ 0 ≤ v21_1 ∧ v21_1 < s0 388 (s0 386 12).toNat, fun n g v65_1 v65_3 v65_4 v65_5 => n = (100 - v65_5).toNat ∧ 0 ≤ v65_1 ∧ v65_1 < s0 388 (s0 386 12).toNat ∧ ¬ v65_3 = 0, ?_, ?_, ?_⟩
  · skip
    refine ⟨fun h56 => ?_, fun h56 => ?_⟩
    · skip
      exact h
    · skip
      intro x57 ex57 fx57 gx57
      intro x64 ex64 fx64 gx64
      refine ⟨fun h65 => ?_, fun h65 => ?_⟩
      · skip
        refine ⟨fun h66 => ?_, fun h66 => ?_⟩
        · skip
          refine ⟨fun h67 => ?_, fun h67 => ?_⟩
          · skip
            exact h
          · skip
            intro x71 ex71 fx71 gx71
            refine ⟨fun h72 => ?_, fun h72 => ?_⟩
            · skip
              refine ⟨1000, rfl, by omega, ?_⟩
              rw [← ex57, ← ex64]
              omega
            · skip
              exact h
        · skip
          refine ⟨1000, rfl, by omega, ?_⟩
          rw [← ex57, ← ex64]
          omega
      · skip
        exact h
  · intro n g v21_1 v21_2 rg qv21_10 qv21_11 qv21_20 qv21_21 hI
    obtain ⟨hn, hv, hv2⟩ := hI
    have hz := h.fr rg rfl
    intro x1 ex1 fx1 gx1
    refine ⟨fun h5 => ?_, fun h5 => ?_⟩
    · skip
      refine ⟨fun _ _ => True, ?_, ?_⟩
      · skip
        exact v_2412 hz
      · skip
        intro x11 g14 rg14 qg14
        refine ⟨fun h16 => ?_, fun h16 => ?_⟩
        · skip
          refine ⟨fun h17 => ?_, fun h17 => ?_⟩
          · skip
            refine ⟨fun _ _ => True, ?_, ?_⟩
            · skip
              have F0 : zFr [(416, 418, 1000), (434, 436, 1000), (386, 387, 70), (386, 387, 71), (386, 387, 72), (386, 387, 74)] s0 g := rg
              have F1 : zFr [(416, 418, 1000), (434, 436, 1000), (386, 387, 70), (386, 387, 71), (386, 387, 72), (386, 387, 74)] s0 g14 := F0.trans (rg14.mono (by decide))
              exact v_2413 (h.fr F1 rfl) ⟨hv, by rw [F1.a (a := 388) (by decide), F1.s (a := 386) (k := 12) (by decide)]; exact hv2⟩
            · skip
              intro x23 g26 rg26 qg26
              intro x28 
              have oh29 : (¬ x11 = 0) := by
                omega
              refine ⟨oh29, ?_⟩
              intro x30 
              have F0 : zFr [(416, 418, 1000), (434, 436, 1000), (386, 387, 70), (386, 387, 71), (386, 387, 72), (386, 387, 74)] s0 g := rg
              have F1 : zFr [(416, 418, 1000), (434, 436, 1000), (386, 387, 70), (386, 387, 71), (386, 387, 72), (386, 387, 74)] s0 g14 := F0.trans (rg14.mono (by decide))
              have F2 : zFr [(416, 418, 1000), (434, 436, 1000), (386, 387, 70), (386, 387, 71), (386, 387, 72), (386, 387, 74)] s0 g26 := F1.trans (rg26.mono (by decide))
              exact h.fr F2 rfl
          · skip
            exact ⟨_, by omega, rfl, hv, hv2, by omega⟩
        · skip
          have F0 : zFr [(416, 418, 1000), (434, 436, 1000), (386, 387, 70), (386, 387, 71), (386, 387, 72), (386, 387, 74)] s0 g := rg
          have F1 : zFr [(416, 418, 1000), (434, 436, 1000), (386, 387, 70), (386, 387, 71), (386, 387, 72), (386, 387, 74)] s0 g14 := F0.trans (rg14.mono (by decide))
          exact h.fr F1 rfl
    · skip
      have F0 : zFr [(416, 418, 1000), (434, 436, 1000), (386, 387, 70), (386, 387, 71), (386, 387, 72), (386, 387, 74)] s0 g := rg
      exact h.fr F0 rfl
  · intro n g v65_1 v65_3 v65_4 v65_5 rg qv65_10 qv65_11 qv65_50 qv65_51 hI
    obtain ⟨hn, hv, hv2, hv3⟩ := hI
    have hz := h.fr rg rfl
    intro x31 ex31 fx31 gx31
    intro x38 ex38 fx38 gx38
    refine ⟨fun h39 => ?_, fun h39 => ?_⟩
    · skip
      refine ⟨fun _ _ => True, ?_, ?_⟩
      · skip
        have F0 : zFr [(416, 418, 1000), (434, 436, 1000), (386, 387, 70), (386, 387, 71), (386, 387, 72), (386, 387, 74)] s0 g := rg
        exact v_2413 (h.fr F0 rfl) ⟨hv, by rw [F0.a (a := 388) (by decide), F0.s (a := 386) (k := 12) (by decide)]; exact hv2⟩
      · skip
        intro x45 g48 rg48 qg48
        intro x50 
        have oh51 : (¬ v65_3 = 0) := by
          omega
        refine ⟨oh51, ?_⟩
        intro x52 
        intro x53 
        intro x54 ex54
        exact ⟨_, by omega, rfl, hv, hv2, by omega⟩
    · skip
      have F0 : zFr [(416, 418, 1000), (434, 436, 1000), (386, 387, 70), (386, 387, 71), (386, 387, 72), (386, 387, 74)] s0 g := rg
      exact h.fr F0 rfl
