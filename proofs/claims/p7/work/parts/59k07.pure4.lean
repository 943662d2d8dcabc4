/-! pure proofs (wip/safe/vcp.py) -/
set_option maxHeartbeats 4000000 in
theorem v_2389 {s0 : zF} (h : zIa s0) (hm : 1 ≤ s0 396 (s0 386 12).toNat) : b_2389 s0 (fun _ _ => True) := by
  refine ⟨fun n g v11_1 v11_2 => n = (20 - v11_2).toNat ∧ 0 ≤ v11_2 ∧ 0 ≤ v11_1 ∧ ∃ b : Nat, s0 386 12 = b ∧ b ≤ 1 ∧ WFB s0 b 1600 ∧ v11_2 < s0 396 b ∧ v11_1 < oS (s0 401) (6 * b) (s0 396 b).toNat - oS (s0 401) (6 * b) v11_2.toNat, ?_, ?_⟩
  · skip
    refine ⟨fun v g' => g' = s0 ∧ ∃ b : Nat, s0 386 12 = b ∧ b ≤ 1 ∧ WFB s0 b 1600 ∧ v = oS (s0 401) (6 * b) (s0 396 b).toNat, ?_, ?_⟩
    · skip
      exact v_2390 h
    · skip
      intro x38 g41 rg41 qg41
      have oh43 : (1 ≤ x38) := by
        obtain ⟨q1, b, hb, hb1, hw, q2⟩ := (qg41 : g41 = s0 ∧ _)
        have ho := oS_b (f := s0 401) (p := 6 * b) (n := (s0 396 b).toNat) (fun d hd => hw.2.2.2.2.2 d (by omega))
        rw [show (s0 386 12).toNat = b by omega] at hm
        omega
      refine ⟨oh43, ?_⟩
      intro x47 hx471 g50 rg50 
      intro lx47
      obtain ⟨q1, b, hb, hb1, hw, q2⟩ := (qg41 : g41 = s0 ∧ _)
      rw [show (s0 386 12).toNat = b by omega] at hm
      refine ⟨_, rfl, by decide, by omega, b, hb, hb1, hw, by omega, ?_⟩
      show _ < _ - (0 : Int)
      omega
  · intro n g v11_1 v11_2 rg qv11_20 hI
    obtain ⟨hn, h0i, h1i, b, hb, hb1, hw, h2i, h3i⟩ := hI
    have e12 : g 386 12 = s0 386 12 := rg.s (by decide)
    have e401 : g 401 = s0 401 := rg.a (by decide)
    have h6 := hw.2.2.2.2.1
    have hd := hw.2.2.2.2.2 v11_2.toNat (by omega)
    have ho := oS_b (f := s0 401) (p := 6 * b) (n := (s0 396 b).toNat) (fun d hd => hw.2.2.2.2.2 d (by omega))
    have ho2 := oS_b (f := s0 401) (p := 6 * b) (n := v11_2.toNat) (fun d hd => hw.2.2.2.2.2 d (by omega))
    intro x1 ex1 fx1 gx1
    intro x5 ex5
    have oh7 : (-2147483648 ≤ x5 + v11_2 ∧ x5 + v11_2 ≤ 2147483647) := by
      omega
    refine ⟨oh7, ?_⟩
    intro x8 ex8
    have oh10 : (x8 ≤ 11) := by
      omega
    refine ⟨oh10, ?_⟩
    intro x14 ex14
    refine ⟨fun h15 => ?_, fun h15 => ?_⟩
    · skip
      have oh16 : (v11_2 ≤ 5) := by
        omega
      refine ⟨oh16, ?_⟩
      trivial
    · skip
      intro x17 ex17
      have oh19 : (-2147483648 ≤ x17 + v11_2 ∧ x17 + v11_2 ≤ 2147483647) := by
        have hd2 := hd
        rw [show 6 * b + v11_2.toNat = x8.toNat by omega, ← e401] at hd2
        omega
      refine ⟨oh19, ?_⟩
      intro x20 ex20
      have oh22 : (x20 ≤ 11) := by
        omega
      refine ⟨oh22, ?_⟩
      intro x26 ex26
      have oh27 : (-2147483648 ≤ v11_1 - x26 ∧ v11_1 - x26 ≤ 2147483647) := by
        have hd2 := hd
        rw [show 6 * b + v11_2.toNat = x20.toNat by omega, ← e401] at hd2
        omega
      refine ⟨oh27, ?_⟩
      intro x28 ex28
      have oh30 : (v11_2 ≤ 2147483646) := by
        omega
      refine ⟨oh30, ?_⟩
      intro x31 ex31
      have e14 : x14 = x26 := by
        rw [ex14, ex26, show x8 = x20 by omega]
      have hd2 := hd
      rw [show 6 * b + v11_2.toNat = x20.toNat by omega, ← e401, ← ex26] at hd2
      have hs : oS (s0 401) (6 * b) (v11_2.toNat + 1) = oS (s0 401) (6 * b) v11_2.toNat + x26 := by
        show oS (s0 401) (6 * b) v11_2.toNat + s0 401 (6 * b + v11_2.toNat) = _
        rw [show 6 * b + v11_2.toNat = x20.toNat by omega, ← e401, ← ex26]
      have hlt : v11_2 + 1 < s0 396 b := by
        by_cases z : v11_2 + 1 < s0 396 b
        · exact z
        · exfalso
          rw [show (s0 396 b).toNat = v11_2.toNat + 1 by omega] at h3i
          omega
      refine ⟨_, ?_, rfl, by omega, by omega, b, hb, hb1, hw, by omega, ?_⟩
      · omega
      · rw [show x31.toNat = v11_2.toNat + 1 by omega]
        omega
