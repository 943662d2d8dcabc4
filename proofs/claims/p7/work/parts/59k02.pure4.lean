/-! pure proofs (wip/safe/vcp.py) -/
set_option maxHeartbeats 4000000 in
theorem v_2354 {s0 : zF} {a0 a1 : Int} (h0 : 0 ≤ a0) : b_2354 s0 a0 a1 (fun v g => g = s0 ∧ ((∃ p : Nat, (p : Int) < s0 388 (s0 386 12).toNat ∧ s0 419 (12 * a0.toNat + p) = a1) → 0 ≤ v)) := by
  refine ⟨fun n g v2_1 v2_2 v2_3 => n = (100 - v2_3).toNat ∧ v2_1 = a0 ∧ v2_2 = a1 ∧ ∀ p : Nat, (p : Int) < v2_3 → s0 419 (12 * a0.toNat + p) ≠ a1, ?_, ?_⟩
  · skip
    exact ⟨_, rfl, rfl, rfl, fun p hp => by omega⟩
  · intro n g v2_1 v2_2 v2_3 rg qv2_10 qv2_11 qv2_20 qv2_21 qv2_30 qv2_31 hI
    obtain ⟨hn, hv1, hv2, hp⟩ := hI
    have hg := zFr_nil rg
    intro x1 ex1 fx1 gx1
    intro x8 ex8 fx8 gx8
    refine ⟨fun h9 => ?_, fun h9 => ?_⟩
    · skip
      intro x10 ex10
      intro x12 ex12
      intro x17 ex17 fx17 gx17
      refine ⟨fun h18 => ?_, fun h18 => ?_⟩
      · skip
        intro x19 ex19
        refine ⟨_, ?_, rfl, hv1, hv2, fun p hq => ?_⟩
        · omega
        · by_cases q : (p : Int) = v2_3
          · rw [← hg, show 12 * a0.toNat + p = x12.toNat by omega, ← ex17]
            omega
          · exact hp p (by omega)
      · skip
        exact ⟨hg, fun _ => by omega⟩
    · skip
      refine ⟨hg, fun z => ?_⟩
      obtain ⟨p, p1, p2⟩ := z
      exfalso
      refine hp p ?_ p2
      rw [hg] at ex8 ex1
      rw [← ex1, ← ex8] at p1
      omega
