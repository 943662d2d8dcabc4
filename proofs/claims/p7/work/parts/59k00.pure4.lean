/-! pure proofs (wip/safe/vcp.py) -/
set_option maxHeartbeats 4000000 in
theorem v_2341 {s0 : zF} : b_2341 s0 (fun g => (∀ b : Nat, b < 12 → g 419 b = b) ∧ g 386 65 = 0) := by
  refine ⟨fun n g v26_1 => n = (100 - v26_1).toNat ∧ (∀ b : Nat, (b : Int) < v26_1 → g 419 b = b) ∧ g 386 65 = 0, fun n g v66_1 => n = (50 - v66_1).toNat ∧ (∀ b : Nat, b < 12 → g 419 b = b) ∧ g 386 65 = 0, ?_, ?_, ?_⟩
  · skip
    intro g53 eg53
    intro g58 eg58
    intro g63 eg63
    intro g68 eg68
    refine ⟨_, rfl, fun b hb => by omega, ?_⟩
    rw [eg68, eg63]
    rfl
  · intro n g v26_1 rg qv26_10 qv26_11 hI
    obtain ⟨hn, h1i, h2i⟩ := hI
    refine ⟨fun h1 => ?_, fun h1 => ?_⟩
    · skip
      intro g6 eg6
      intro g11 eg11
      intro g16 eg16
      intro g20 rg20 
      intro x22 ex22
      have a419 : g20 419 = zup1 (g 419) v26_1.toNat v26_1 := by
        rw [rg20.a (a := 419) (by decide), eg16, zup_na (by decide), eg11, zup_na (by decide), eg6, zup_app, if_pos rfl]
      have s65 : g20 386 65 = g 386 65 := by
        rw [rg20.s (a := 386) (k := 65) (by decide), eg16, eg11, eg6]
        rfl
      refine ⟨_, ?_, rfl, fun b hb => ?_, s65.trans h2i⟩
      · omega
      · rw [a419, zup1_app]
        split
        · omega
        · exact h1i b (by omega)
    · skip
      refine ⟨_, ?_, rfl, fun b hb => h1i b (by omega), h2i⟩
      omega
  · intro n g v66_1 rg qv66_10 qv66_11 hI
    obtain ⟨hn, h1i, h2i⟩ := hI
    refine ⟨fun h24 => ?_, fun h24 => ?_⟩
    · skip
      intro g29 eg29
      intro x30 ex30 fx30 gx30
      intro x34 ex34
      intro x36 ex36
      intro x41 ex41
      intro g46 eg46
      intro x47 ex47
      have a419 : g46 419 = g 419 := by
        rw [eg46, zup_na (by decide), eg29, zup_na (by decide)]
      refine ⟨_, ?_, rfl, ?_, ?_⟩
      · omega
      · rw [a419]
        exact h1i
      · rw [eg46, eg29]
        exact h2i
    · skip
      exact ⟨h1i, h2i⟩
