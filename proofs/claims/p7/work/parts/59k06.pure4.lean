/-! pure proofs (wip/safe/vcp.py) -/
set_option maxHeartbeats 4000000 in
theorem v_2390 {s0 : zF} (h : zIa s0) : b_2390 s0 (fun v g => g = s0 ∧ ∃ b : Nat, s0 386 12 = b ∧ b ≤ 1 ∧ WFB s0 b 1600 ∧ v = oS (s0 401) (6 * b) (s0 396 b).toNat) := by
  refine ⟨fun n g v4_1 v4_2 => n = (20 - v4_2).toNat ∧ ∃ b : Nat, s0 386 12 = b ∧ b ≤ 1 ∧ WFB s0 b 1600 ∧ v4_2 ≤ s0 396 b ∧ v4_1 = oS (s0 401) (6 * b) v4_2.toNat, ?_, ?_⟩
  · skip
    obtain ⟨b, hb, hb1, hw⟩ := h
    exact ⟨_, rfl, b, hb, hb1, hw, hw.2.2.2.1, rfl⟩
  · intro n g v4_1 v4_2 rg qv4_20 qv4_21 hI
    obtain ⟨hn, b, hb, hb1, hw, h1i, h2i⟩ := hI
    have hg := zFr_nil rg
    subst hg
    have ho := oS_b (f := g 401) (p := 6 * b) (n := v4_2.toNat) (fun d hd => hw.2.2.2.2.2 d (by omega))
    intro x1 ex1 fx1 gx1
    intro x8 ex8 fx8 gx8
    refine ⟨fun h9 => ?_, fun h9 => ?_⟩
    · skip
      intro x10 ex10
      intro x12 ex12
      intro x17 ex17
      have oh18 : (-2147483648 ≤ v4_1 + x17 ∧ v4_1 + x17 ≤ 2147483647) := by
        have eb : x1.toNat = b := by omega
        have eN : x8 = g 396 b := by
          rw [← eb]
          exact ex8
        have hd := hw.2.2.2.2.2 v4_2.toNat (by omega)
        rw [show 6 * b + v4_2.toNat = x12.toNat by omega, ← ex17] at hd
        omega
      refine ⟨oh18, ?_⟩
      intro x19 ex19
      intro x21 ex21
      have eb : x1.toNat = b := by omega
      have eN : x8 = g 396 b := by
        rw [← eb]
        exact ex8
      refine ⟨_, ?_, rfl, b, hb, hb1, hw, by omega, ?_⟩
      · omega
      · rw [show x21.toNat = v4_2.toNat + 1 by omega]
        show _ = oS (g 401) (6 * b) v4_2.toNat + g 401 (6 * b + v4_2.toNat)
        rw [show 6 * b + v4_2.toNat = x12.toNat by omega, ← ex17]
        omega
    · skip
      have eb : x1.toNat = b := by omega
      have eN : x8 = g 396 b := by
        rw [← eb]
        exact ex8
      refine ⟨rfl, b, hb, hb1, hw, ?_⟩
      rw [h2i, show v4_2.toNat = (g 396 b).toNat by omega]
