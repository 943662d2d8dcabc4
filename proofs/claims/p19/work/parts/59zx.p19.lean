/-! the answers of p19 (wip/safe/vcp36.py) -/
set_option maxRecDepth 100000 in
def p_2079 (s0 : zF) (a0 : Int) (a1 : Int) (Q : Int → zF → Prop) : Prop :=
  (a0 < 0 → ∀ g5 : zF, zFr [(385, 386, 1000)] s0 g5 → Q 0 g5) ∧ (0 ≤ a0 → ∀ x7 : Int, x7 = s0 (49) 0 → 0 ≤ x7 → x7 ≤ 12 → (a0 < x7 → (a1 < 0 → ∀ g16 : zF, zFr [(385, 386, 1000)] s0 g16 → Q 0 g16) ∧ (0 ≤ a1 → (a1 < x7 → (¬ a0 = a1 → ∀ g25 : zF, zFr [(77, 78, 0), (79, 346, 0), (77, 78, 1), (79, 346, 1), (80, 359, 1000), (79, 346, 14), (0, 1, 15)] s0 g25 → ∀ g30 : zF, zFr [(50, 51, 1000)] g25 g30 → Q 1 g30) ∧ (a0 = a1 → ∀ g35 : zF, zFr [(385, 386, 1000)] s0 g35 → Q 0 g35)) ∧ (x7 ≤ a1 → ∀ g40 : zF, zFr [(385, 386, 1000)] s0 g40 → Q 0 g40))) ∧ (x7 ≤ a0 → ∀ g45 : zF, zFr [(385, 386, 1000)] s0 g45 → Q 0 g45))
set_option maxRecDepth 100000 in
theorem cj_2079 {s0 : zF} {a0 : Int} {a1 : Int} {Q1 Q2 : Int → zF → Prop} (h1 : b_2079 s0 a0 a1 Q1) (h2 : p_2079 s0 a0 a1 Q2) : b_2079 s0 a0 a1 (fun v g => Q1 v g ∧ Q2 v g) := by
  unfold b_2079 at h1 ⊢
  unfold p_2079 at h2
  refine ⟨fun z => ?_, fun z => ?_⟩
  · replace h1 := h1.1 z
    replace h2 := h2.1 z
    intro g5 a2_0
    replace h1 := h1 g5 a2_0
    replace h2 := h2 g5 a2_0
    exact ⟨h1, h2⟩
  · replace h1 := h1.2 z
    replace h2 := h2.2 z
    intro x7 a2_0 a2_1 a2_2
    replace h1 := h1 x7 a2_0 a2_1 a2_2
    replace h2 := h2 x7 a2_0 a2_1 a2_2
    refine ⟨fun z => ?_, fun z => ?_⟩
    · replace h1 := h1.1 z
      replace h2 := h2.1 z
      refine ⟨fun z => ?_, fun z => ?_⟩
      · replace h1 := h1.1 z
        replace h2 := h2.1 z
        intro g16 a4_0
        replace h1 := h1 g16 a4_0
        replace h2 := h2 g16 a4_0
        exact ⟨h1, h2⟩
      · replace h1 := h1.2 z
        replace h2 := h2.2 z
        refine ⟨fun z => ?_, fun z => ?_⟩
        · replace h1 := h1.1 z
          replace h2 := h2.1 z
          refine ⟨fun z => ?_, fun z => ?_⟩
          · replace h1 := h1.1 z
            replace h2 := h2.1 z
            obtain ⟨P1, c1, h1⟩ := h1
            refine ⟨P1, c1, ?_⟩
            intro g25 a6_0 a6_1 g30 a6_2
            replace h1 := h1 g25 a6_0 a6_1 g30 a6_2
            replace h2 := h2 g25 a6_0 g30 a6_2
            exact ⟨h1, h2⟩
          · replace h1 := h1.2 z
            replace h2 := h2.2 z
            intro g35 a6_0
            replace h1 := h1 g35 a6_0
            replace h2 := h2 g35 a6_0
            exact ⟨h1, h2⟩
        · replace h1 := h1.2 z
          replace h2 := h2.2 z
          intro g40 a5_0
          replace h1 := h1 g40 a5_0
          replace h2 := h2 g40 a5_0
          exact ⟨h1, h2⟩
    · replace h1 := h1.2 z
      replace h2 := h2.2 z
      intro g45 a3_0
      replace h1 := h1 g45 a3_0
      replace h2 := h2 g45 a3_0
      exact ⟨h1, h2⟩
set_option maxRecDepth 100000 in
def p_2395 (s0 : zF) (a0 : Int) (a1 : Int) (Q : Int → zF → Prop) : Prop :=
  (a0 < 0 → ∀ x5 : Int, (-1) ≤ x5 → x5 ≤ (-1) → ∀ g8 : zF, zFr [(415, 416, 1000)] s0 g8 → Q 0 g8) ∧ (0 ≤ a0 → ∀ x10 : Int, x10 = s0 (386) 12 → 0 ≤ x10 → x10 ≤ 1 → ∀ x17 : Int, x17 = s0 (388) x10.toNat → 0 ≤ x17 → x17 ≤ 12 → (a0 < x17 → (a1 < 0 → ∀ x23 : Int, (-1) ≤ x23 → x23 ≤ (-1) → ∀ g26 : zF, zFr [(415, 416, 1000)] s0 g26 → Q 0 g26) ∧ (0 ≤ a1 → (a1 < x17 → (¬ a0 = a1 → ∀ g38 : zF, zFr [(418, 433, 1000), (386, 387, 64), (386, 387, 65)] s0 g38 → ∀ x43 : Int, x43 = g38 (419) a0.toNat → 0 ≤ x43 → x43 ≤ 11 → ∀ x47 : Int, x47 = g38 (419) a1.toNat → 0 ≤ x47 → x47 ≤ 11 → ∀ g52 : zF, g52 = zup g38 (419) a0.toNat x47 → ∀ g57 : zF, g57 = zup g52 (419) a1.toNat x43 → Q 1 g57) ∧ (a0 = a1 → ∀ x61 : Int, (-1) ≤ x61 → x61 ≤ (-1) → ∀ g64 : zF, zFr [(415, 416, 1000)] s0 g64 → Q 0 g64)) ∧ (x17 ≤ a1 → ∀ x69 : Int, (-1) ≤ x69 → x69 ≤ (-1) → ∀ g72 : zF, zFr [(415, 416, 1000)] s0 g72 → Q 0 g72))) ∧ (x17 ≤ a0 → ∀ x77 : Int, (-1) ≤ x77 → x77 ≤ (-1) → ∀ g80 : zF, zFr [(415, 416, 1000)] s0 g80 → Q 0 g80))
set_option maxRecDepth 100000 in
theorem cj_2395 {s0 : zF} {a0 : Int} {a1 : Int} {Q1 Q2 : Int → zF → Prop} (h1 : b_2395 s0 a0 a1 Q1) (h2 : p_2395 s0 a0 a1 Q2) : b_2395 s0 a0 a1 (fun v g => Q1 v g ∧ Q2 v g) := by
  unfold b_2395 at h1 ⊢
  unfold p_2395 at h2
  refine ⟨fun z => ?_, fun z => ?_⟩
  · replace h1 := h1.1 z
    replace h2 := h2.1 z
    intro x5 a2_0 a2_1 g8 a2_2
    replace h1 := h1 x5 a2_0 a2_1 g8 a2_2
    replace h2 := h2 x5 a2_0 a2_1 g8 a2_2
    exact ⟨h1, h2⟩
  · replace h1 := h1.2 z
    replace h2 := h2.2 z
    intro x10 a2_0 a2_1 a2_2 x17 a2_3 a2_4 a2_5
    replace h1 := h1 x10 a2_0 a2_1 a2_2 x17 a2_3 a2_4 a2_5
    replace h2 := h2 x10 a2_0 a2_1 a2_2 x17 a2_3 a2_4 a2_5
    refine ⟨fun z => ?_, fun z => ?_⟩
    · replace h1 := h1.1 z
      replace h2 := h2.1 z
      refine ⟨fun z => ?_, fun z => ?_⟩
      · replace h1 := h1.1 z
        replace h2 := h2.1 z
        intro x23 a4_0 a4_1 g26 a4_2
        replace h1 := h1 x23 a4_0 a4_1 g26 a4_2
        replace h2 := h2 x23 a4_0 a4_1 g26 a4_2
        exact ⟨h1, h2⟩
      · replace h1 := h1.2 z
        replace h2 := h2.2 z
        refine ⟨fun z => ?_, fun z => ?_⟩
        · replace h1 := h1.1 z
          replace h2 := h2.1 z
          refine ⟨fun z => ?_, fun z => ?_⟩
          · replace h1 := h1.1 z
            replace h2 := h2.1 z
            obtain ⟨P1, c1, h1⟩ := h1
            refine ⟨P1, c1, ?_⟩
            intro g38 a6_0 a6_1 x43 a6_2 a6_3 a6_4 x47 a6_5 a6_6 a6_7 g52 a6_8 g57 a6_9
            replace h1 := h1 g38 a6_0 a6_1 x43 a6_2 a6_3 a6_4 x47 a6_5 a6_6 a6_7 g52 a6_8 g57 a6_9
            replace h2 := h2 g38 a6_0 x43 a6_2 a6_3 a6_4 x47 a6_5 a6_6 a6_7 g52 a6_8 g57 a6_9
            exact ⟨h1, h2⟩
          · replace h1 := h1.2 z
            replace h2 := h2.2 z
            intro x61 a6_0 a6_1 g64 a6_2
            replace h1 := h1 x61 a6_0 a6_1 g64 a6_2
            replace h2 := h2 x61 a6_0 a6_1 g64 a6_2
            exact ⟨h1, h2⟩
        · replace h1 := h1.2 z
          replace h2 := h2.2 z
          intro x69 a5_0 a5_1 g72 a5_2
          replace h1 := h1 x69 a5_0 a5_1 g72 a5_2
          replace h2 := h2 x69 a5_0 a5_1 g72 a5_2
          exact ⟨h1, h2⟩
    · replace h1 := h1.2 z
      replace h2 := h2.2 z
      intro x77 a3_0 a3_1 g80 a3_2
      replace h1 := h1 x77 a3_0 a3_1 g80 a3_2
      replace h2 := h2 x77 a3_0 a3_1 g80 a3_2
      exact ⟨h1, h2⟩
set_option maxHeartbeats 4000000 in
theorem w_2079 {s0 : zF} {a0 a1 : Int} : p_2079 s0 a0 a1 (fun v _ => v = 1 ∧ (0 ≤ a0 ∧ a0 < s0 49 0 ∧ 0 ≤ a1 ∧ a1 < s0 49 0 ∧ a0 ≠ a1) ∨ v = 0 ∧ ¬(0 ≤ a0 ∧ a0 < s0 49 0 ∧ 0 ≤ a1 ∧ a1 < s0 49 0 ∧ a0 ≠ a1)) := by
  unfold p_2079
  refine ⟨fun h1z => ?_, fun h1z => ?_⟩
  · skip
    intro g5 rg5
    exact Or.inr ⟨rfl, by omega⟩
  · skip
    intro x7 ex7 o3 o4
    refine ⟨fun h5z => ?_, fun h5z => ?_⟩
    · skip
      refine ⟨fun h6z => ?_, fun h6z => ?_⟩
      · skip
        intro g16 rg16
        exact Or.inr ⟨rfl, by omega⟩
      · skip
        refine ⟨fun h7z => ?_, fun h7z => ?_⟩
        · skip
          refine ⟨fun h8z => ?_, fun h8z => ?_⟩
          · skip
            intro g25 rg25 g30 rg30
            exact Or.inl ⟨rfl, by omega⟩
          · skip
            intro g35 rg35
            exact Or.inr ⟨rfl, by omega⟩
        · skip
          intro g40 rg40
          exact Or.inr ⟨rfl, by omega⟩
    · skip
      intro g45 rg45
      exact Or.inr ⟨rfl, by omega⟩
set_option maxHeartbeats 4000000 in
theorem w_2395 {s0 : zF} {a0 a1 : Int} : p_2395 s0 a0 a1 (fun v _ => v = 1 ∧ (0 ≤ a0 ∧ a0 < s0 388 (s0 386 12).toNat ∧ 0 ≤ a1 ∧ a1 < s0 388 (s0 386 12).toNat ∧ a0 ≠ a1) ∨ v = 0 ∧ ¬(0 ≤ a0 ∧ a0 < s0 388 (s0 386 12).toNat ∧ 0 ≤ a1 ∧ a1 < s0 388 (s0 386 12).toNat ∧ a0 ≠ a1)) := by
  unfold p_2395
  refine ⟨fun h1z => ?_, fun h1z => ?_⟩
  · skip
    intro x5 o2 o3 g8 rg8
    exact Or.inr ⟨rfl, by omega⟩
  · skip
    intro x10 ex10 o3 o4 x17 ex17 o6 o7
    refine ⟨fun h8z => ?_, fun h8z => ?_⟩
    · skip
      refine ⟨fun h9z => ?_, fun h9z => ?_⟩
      · skip
        intro x23 o10 o11 g26 rg26
        have hn : x17 = s0 388 (s0 386 12).toNat := by rw [ex17, ex10]
        exact Or.inr ⟨rfl, by omega⟩
      · skip
        refine ⟨fun h10z => ?_, fun h10z => ?_⟩
        · skip
          refine ⟨fun h11z => ?_, fun h11z => ?_⟩
          · skip
            intro g38 rg38 x43 ex43 o14 o15 x47 ex47 o17 o18 g52 eg52 g57 eg57
            have hn : x17 = s0 388 (s0 386 12).toNat := by rw [ex17, ex10]
            exact Or.inl ⟨rfl, by omega⟩
          · skip
            intro x61 o12 o13 g64 rg64
            have hn : x17 = s0 388 (s0 386 12).toNat := by rw [ex17, ex10]
            exact Or.inr ⟨rfl, by omega⟩
        · skip
          intro x69 o11 o12 g72 rg72
          have hn : x17 = s0 388 (s0 386 12).toNat := by rw [ex17, ex10]
          exact Or.inr ⟨rfl, by omega⟩
    · skip
      intro x77 o9 o10 g80 rg80
      have hn : x17 = s0 388 (s0 386 12).toNat := by rw [ex17, ex10]
      exact Or.inr ⟨rfl, by omega⟩
