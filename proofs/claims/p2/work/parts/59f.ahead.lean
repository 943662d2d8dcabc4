/-! the next sign (wip/safe/vcp.py) -/
theorem v_2310 {s0 : zF} (h : 0 ≤ s0 386 5 ∧ s0 386 5 ≤ s0 386 2 ∧ s0 386 2 ≤ 1600 ∧ 0 ≤ s0 386 8 ∧ s0 386 8 ≤ 5) : b_2310 s0 (fun g => AP s0 g) := by
  sorry
