/-! pure proofs (wip/safe/vcp.py) -/
set_option maxHeartbeats 4000000 in
theorem v_2363 {s0 : zF} {a0 : Int} (h0 : 0 ≤ a0) : b_2363 s0 a0 (fun g => RN s0 a0 g) := by
  refine ⟨fun n g v20_1 v20_2 => n = (100 - v20_2).toNat ∧ v20_1 = a0 ∧ g 386 70 = s0 388 (s0 386 12).toNat ∧ ∀ p : Nat, (p : Int) < v20_2 → g 434 p = s0 419 (12 * a0.toNat + p), ?_, ?_⟩
  · skip
    intro x21 ex21 fx21 gx21
    intro x28 ex28 fx28 gx28
    intro g33 eg33
    intro g38 eg38
    intro g43 eg43
    have s70 : g43 386 70 = x28 := by
      rw [eg43, eg38, eg33]
      rfl
    refine ⟨_, rfl, rfl, ?_, fun p hp => by omega⟩
    rw [s70, ex28, ex21]
  · intro n g v20_1 v20_2 rg qv20_10 qv20_11 qv20_20 qv20_21 hI
    obtain ⟨hn, hv, h70, hp⟩ := hI
    have e419 : g 419 = s0 419 := rg.a (by decide)
    intro x1 ex1 fx1 gx1
    refine ⟨fun h5 => ?_, fun h5 => ?_⟩
    · skip
      intro x6 ex6
      intro x8 ex8
      intro x13 ex13 fx13 gx13
      intro g18 eg18
      intro x19 ex19
      have a434 : g18 434 = zup1 (g 434) v20_2.toNat x13 := by
        rw [eg18, zup_app, if_pos rfl]
      refine ⟨_, ?_, rfl, hv, ?_, fun p hq => ?_⟩
      · omega
      · rw [eg18]
        exact h70
      · rw [a434, zup1_app]
        split
        · rw [ex13, e419]
          congr 1
          omega
        · exact hp p (by omega)
    · skip
      refine ⟨h70, fun p hq => hp p ?_⟩
      rw [← h70] at hq
      omega
set_option maxHeartbeats 4000000 in
theorem v_2404 {s0 : zF} {a0 a1 : Int} : b_2404 s0 a0 a1 (fun g => g 434 = zup1 (zup1 (s0 434) a0.toNat (s0 434 a1.toNat)) a1.toNat (s0 434 a0.toNat)) := by
  unfold b_2404
  intro x4 ex4 fx4 gx4
  intro x8 ex8 fx8 gx8
  intro g13 eg13
  intro g18 eg18
  have a434 : g18 434 = zup1 (zup1 (s0 434) a0.toNat x8) a1.toNat x4 := by
    rw [eg18, zup_app, if_pos rfl, eg13, zup_app, if_pos rfl]
  rw [a434, ex4, ex8]
