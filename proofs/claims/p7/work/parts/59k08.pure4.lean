/-! pure proofs (wip/safe/vcp.py) -/
set_option maxHeartbeats 4000000 in
theorem v_2380 {s0 : zF} {a0 a1 a2 a3 a4 : Int} (h : zIa s0) (h0 : 0 ≤ a0) (hp : ∃ p : Nat, (p : Int) < s0 388 (s0 386 12).toNat ∧ s0 419 (12 * a0.toNat + p) = a1) : b_2380 s0 a0 a1 a2 a3 a4 (fun _ _ => True) := by
  refine ⟨fun n g v107_1 v107_3 v107_4 v107_5 v107_7 v107_8 => n = (100 - v107_8).toNat, ?_, ?_⟩
  · skip
    intro x20 ex20
    intro x22 ex22
    intro g28 eg28
    intro g33 eg33
    intro x34 ex34 fx34 gx34
    intro x38 ex38
    intro x40 ex40
    intro x45 ex45
    intro g50 eg50
    intro g54 rg54 
    intro x56 ex56
    intro x60 
    intro g65 eg65
    refine ⟨fun g' => RN g65 a0 g', ?_, ?_⟩
    · skip
      exact v_2363 h0
    · skip
      intro g71 rg71 qg71
      refine ⟨fun v g' => g' = g71 ∧ ((∃ p : Nat, (p : Int) < g71 388 (g71 386 12).toNat ∧ g71 419 (12 * (a0 : Int).toNat + p) = a1) → 0 ≤ v), ?_, ?_⟩
      · skip
        exact v_2354 h0
      · skip
        intro x78 hx781 hx782 g81 rg81 qg81
        intro x84 ex84
        intro x86 ex86
        intro x91 ex91
        have oh92 : (0 ≤ x78) := by
          have F0 : zFr [(416, 418, 1000), (420, 429, 1000), (431, 433, 1000), (434, 436, 1000), (386, 387, 70), (386, 387, 71), (386, 387, 72), (386, 387, 74), (386, 387, 75)] s0 s0 := zFr_refl
          have F1 : zFr [(416, 418, 1000), (420, 429, 1000), (431, 433, 1000), (434, 436, 1000), (386, 387, 70), (386, 387, 71), (386, 387, 72), (386, 387, 74), (386, 387, 75)] s0 g28 := by
            rw [eg28]
            exact zFr_za F0 (by decide)
          have F2 : zFr [(416, 418, 1000), (420, 429, 1000), (431, 433, 1000), (434, 436, 1000), (386, 387, 70), (386, 387, 71), (386, 387, 72), (386, 387, 74), (386, 387, 75)] s0 g33 := by
            rw [eg33]
            exact zFr_za F1 (by decide)
          have F3 : zFr [(416, 418, 1000), (420, 429, 1000), (431, 433, 1000), (434, 436, 1000), (386, 387, 70), (386, 387, 71), (386, 387, 72), (386, 387, 74), (386, 387, 75)] s0 g50 := by
            rw [eg50]
            exact zFr_za F2 (by decide)
          have F4 : zFr [(416, 418, 1000), (420, 429, 1000), (431, 433, 1000), (434, 436, 1000), (386, 387, 70), (386, 387, 71), (386, 387, 72), (386, 387, 74), (386, 387, 75)] s0 g54 := F3.trans (rg54.mono (by decide))
          have F5 : zFr [(416, 418, 1000), (420, 429, 1000), (431, 433, 1000), (434, 436, 1000), (386, 387, 70), (386, 387, 71), (386, 387, 72), (386, 387, 74), (386, 387, 75)] s0 g65 := by
            rw [eg65]
            exact zFr_zup F4 (zINs_ok (by decide))
          have F6 : zFr [(416, 418, 1000), (420, 429, 1000), (431, 433, 1000), (434, 436, 1000), (386, 387, 70), (386, 387, 71), (386, 387, 72), (386, 387, 74), (386, 387, 75)] s0 g71 := F5.trans (rg71.mono (by decide))
          have q2 := (qg81 : g81 = g71 ∧ _).2
          refine q2 ?_
          obtain ⟨p, p1, p2⟩ := hp
          have E419 : g71 419 = s0 419 := F6.a (by decide)
          have E388 : g71 388 = s0 388 := F6.a (by decide)
          have E12 : g71 386 12 = s0 386 12 := F6.s (by decide)
          exact ⟨p, by rw [E388, E12]; exact p1, by rw [E419]; exact p2⟩
        refine ⟨oh92, ?_⟩
        have oh95 : zIa g81 := by
          have F0 : zFr [(416, 418, 1000), (420, 429, 1000), (431, 433, 1000), (434, 436, 1000), (386, 387, 70), (386, 387, 71), (386, 387, 72), (386, 387, 74), (386, 387, 75)] s0 s0 := zFr_refl
          have F1 : zFr [(416, 418, 1000), (420, 429, 1000), (431, 433, 1000), (434, 436, 1000), (386, 387, 70), (386, 387, 71), (386, 387, 72), (386, 387, 74), (386, 387, 75)] s0 g28 := by
            rw [eg28]
            exact zFr_za F0 (by decide)
          have F2 : zFr [(416, 418, 1000), (420, 429, 1000), (431, 433, 1000), (434, 436, 1000), (386, 387, 70), (386, 387, 71), (386, 387, 72), (386, 387, 74), (386, 387, 75)] s0 g33 := by
            rw [eg33]
            exact zFr_za F1 (by decide)
          have F3 : zFr [(416, 418, 1000), (420, 429, 1000), (431, 433, 1000), (434, 436, 1000), (386, 387, 70), (386, 387, 71), (386, 387, 72), (386, 387, 74), (386, 387, 75)] s0 g50 := by
            rw [eg50]
            exact zFr_za F2 (by decide)
          have F4 : zFr [(416, 418, 1000), (420, 429, 1000), (431, 433, 1000), (434, 436, 1000), (386, 387, 70), (386, 387, 71), (386, 387, 72), (386, 387, 74), (386, 387, 75)] s0 g54 := F3.trans (rg54.mono (by decide))
          have F5 : zFr [(416, 418, 1000), (420, 429, 1000), (431, 433, 1000), (434, 436, 1000), (386, 387, 70), (386, 387, 71), (386, 387, 72), (386, 387, 74), (386, 387, 75)] s0 g65 := by
            rw [eg65]
            exact zFr_zup F4 (zINs_ok (by decide))
          have F6 : zFr [(416, 418, 1000), (420, 429, 1000), (431, 433, 1000), (434, 436, 1000), (386, 387, 70), (386, 387, 71), (386, 387, 72), (386, 387, 74), (386, 387, 75)] s0 g71 := F5.trans (rg71.mono (by decide))
          have F7 : zFr [(416, 418, 1000), (420, 429, 1000), (431, 433, 1000), (434, 436, 1000), (386, 387, 70), (386, 387, 71), (386, 387, 72), (386, 387, 74), (386, 387, 75)] s0 g81 := F6.trans (rg81.mono (by decide))
          exact zIa_fr h F7 rfl
        refine ⟨oh95, ?_⟩
        intro g97 rg97 
        intro x99 ex99 fx99 gx99
        intro x106 g109 rg109 
        exact ⟨_, rfl⟩
  · intro n g v107_1 v107_3 v107_4 v107_5 v107_7 v107_8 rg qv107_10 qv107_11 qv107_30 qv107_31 qv107_50 qv107_51 qv107_80 qv107_81 hI
    have hn := hI
    intro x1 ex1 fx1 gx1
    refine ⟨fun h5 => ?_, fun h5 => ?_⟩
    · skip
      intro x9 ex9 fx9
      refine ⟨fun h10 => ?_, fun h10 => ?_⟩
      · skip
        intro g14 rg14 
        intro x16 ex16
        exact ⟨_, by omega, rfl⟩
      · skip
        intro x18 ex18
        exact ⟨_, by omega, rfl⟩
    · skip
      trivial
