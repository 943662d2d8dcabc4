/-! partial conditions of the reference (wip/safe/vcp.py) -/
set_option maxRecDepth 100000 in
def p_2316 (s0 : zF) (Q : zF → Prop) : Prop :=
  ∀ x1 : Int, x1 = s0 (386) 35 → 0 ≤ x1 → x1 ≤ 1 → ∀ x8 : Int, x8 = s0 (388) x1.toNat → 0 ≤ x8 → x8 ≤ 12 → (¬ x8 = 12 → ∀ x10 : Int, x10 = s0 (386) 8 → 0 ≤ x10 → x10 ≤ 5 → (¬ x10 = 0 → Q s0) ∧ (x10 = 0 → ∃ P17 : zF → Prop, p_2310 s0 P17 ∧ ∀ g20 : zF, zFr [(386, 387, 3), (386, 387, 4), (386, 387, 5), (386, 387, 6), (386, 387, 7), (386, 387, 8), (386, 387, 9)] s0 g20 → P17 g20 → ∀ x22 : Int, x22 = g20 (386) 8 → 0 ≤ x22 → x22 ≤ 5 → (¬ x22 = 0 → Q g20) ∧ (x22 = 0 → ∀ x28 : Int, x28 = 12 * x1 → ∀ x34 : Int, x34 = x28 + x8 → ∃ P38 : Int → zF → Prop, p_2318 g20 P38 ∧ ∀ y41 : Int, ∀ g42 : zF, zFr [(386, 387, 3), (386, 387, 4), (386, 387, 5), (386, 387, 6), (386, 387, 7), (386, 387, 8), (386, 387, 9)] g20 g42 → P38 y41 g42 → ∀ g48 : zF, g48 = zup g42 (389) x34.toNat y41 → ∃ P51 : zF → Prop, p_2321 g48 131277443786868 P51 ∧ ∀ g54 : zF, zFr [(386, 387, 3), (386, 387, 4), (386, 387, 5), (386, 387, 6), (386, 387, 7), (386, 387, 8), (386, 387, 9)] g48 g54 → P51 g54 → ∃ P58 : Int → zF → Prop, p_2322 g54 1 99 P58 ∧ ∀ x61 : Int, ∀ g64 : zF, zFr [(386, 387, 3), (386, 387, 4), (386, 387, 5), (386, 387, 6), (386, 387, 7), (386, 387, 8), (386, 387, 9)] g54 g64 → P58 x61 g64 → ∀ g70 : zF, g70 = zup g64 (390) x34.toNat x61 → ∃ P73 : zF → Prop, p_2321 g70 431198598248 P73 ∧ ∀ g76 : zF, zFr [(386, 387, 3), (386, 387, 4), (386, 387, 5), (386, 387, 6), (386, 387, 7), (386, 387, 8), (386, 387, 9)] g70 g76 → P73 g76 → ∃ P80 : Int → zF → Prop, p_2322 g76 1 999 P80 ∧ ∀ x83 : Int, ∀ g86 : zF, zFr [(386, 387, 3), (386, 387, 4), (386, 387, 5), (386, 387, 6), (386, 387, 7), (386, 387, 8), (386, 387, 9)] g76 g86 → P80 x83 g86 → ∀ g92 : zF, g92 = zup g86 (391) x34.toNat x83 → ∃ P95 : zF → Prop, p_2321 g92 1868850291 P95 ∧ ∀ g98 : zF, zFr [(386, 387, 3), (386, 387, 4), (386, 387, 5), (386, 387, 6), (386, 387, 7), (386, 387, 8), (386, 387, 9)] g92 g98 → P95 g98 → ∃ P102 : Int → zF → Prop, p_2322 g98 0 100 P102 ∧ ∀ x105 : Int, ∀ g108 : zF, zFr [(386, 387, 3), (386, 387, 4), (386, 387, 5), (386, 387, 6), (386, 387, 7), (386, 387, 8), (386, 387, 9)] g98 g108 → P102 x105 g108 → ∀ g114 : zF, g114 = zup g108 (392) x34.toNat x105 → ∃ P117 : zF → Prop, p_2321 g114 483006377075 P117 ∧ ∀ g120 : zF, zFr [(386, 387, 3), (386, 387, 4), (386, 387, 5), (386, 387, 6), (386, 387, 7), (386, 387, 8), (386, 387, 9)] g114 g120 → P117 g120 → ∃ P124 : Int → zF → Prop, p_2322 g120 0 99 P124 ∧ ∀ x127 : Int, ∀ g130 : zF, zFr [(386, 387, 3), (386, 387, 4), (386, 387, 5), (386, 387, 6), (386, 387, 7), (386, 387, 8), (386, 387, 9)] g120 g130 → P124 x127 g130 → ∀ g136 : zF, g136 = zup g130 (393) x34.toNat x127 → ∃ P139 : zF → Prop, p_2324 g136 x34 P139 ∧ ∀ g142 : zF, zFr [(394, 395, 1000), (386, 387, 3), (386, 387, 4), (386, 387, 5), (386, 387, 6), (386, 387, 7), (386, 387, 8), (386, 387, 9)] g136 g142 → P139 g142 → ∀ x144 : Int, x144 = g142 (386) 8 → 0 ≤ x144 → x144 ≤ 5 → (¬ x144 = 0 → Q g142) ∧ (x144 = 0 → ∀ x154 : Int, x154 = x8 + 1 → ∀ g160 : zF, g160 = zup g142 (388) x1.toNat x154 → Q g160)))) ∧ (x8 = 12 → ∀ x161 : Int, x161 = s0 (386) 8 → 0 ≤ x161 → x161 ≤ 5 → (¬ x161 = 0 → Q s0) ∧ (x161 = 0 → ∀ x166 : Int, x166 = s0 (386) 4 → 0 ≤ x166 → x166 ≤ 1600 → ∀ g174 : zF, g174 = zup s0 (386) 8 5 → ∀ g179 : zF, g179 = zup g174 (386) 9 x166 → Q g179))
set_option maxRecDepth 100000 in
theorem cj_2316 {s0 : zF} {Q1 Q2 : zF → Prop} (h1 : b_2316 s0 Q1) (h2 : p_2316 s0 Q2) : b_2316 s0 (fun g => Q1 g ∧ Q2 g) := by
  unfold b_2316 at h1 ⊢
  unfold p_2316 at h2
  intro x1 a1_0 a1_1 a1_2 x8 a1_3 a1_4 a1_5
  replace h1 := h1 x1 a1_0 a1_1 a1_2 x8 a1_3 a1_4 a1_5
  replace h2 := h2 x1 a1_0 a1_1 a1_2 x8 a1_3 a1_4 a1_5
  refine ⟨fun z => ?_, fun z => ?_⟩
  · replace h1 := h1.1 z
    replace h2 := h2.1 z
    intro x10 a2_0 a2_1 a2_2
    replace h1 := h1 x10 a2_0 a2_1 a2_2
    replace h2 := h2 x10 a2_0 a2_1 a2_2
    refine ⟨fun z => ?_, fun z => ?_⟩
    · replace h1 := h1.1 z
      replace h2 := h2.1 z
      exact ⟨h1, h2⟩
    · replace h1 := h1.2 z
      replace h2 := h2.2 z
      obtain ⟨P1, c1, h1⟩ := h1
      obtain ⟨P2, c2, h2⟩ := h2
      refine ⟨fun g => P1 g ∧ P2 g, cj_2310 c1 c2, ?_⟩
      intro g20 a3_0 a3_1 x22 a3_2 a3_3 a3_4
      replace h1 := h1 g20 a3_0 a3_1.1 x22 a3_2 a3_3 a3_4
      replace h2 := h2 g20 a3_0 a3_1.2 x22 a3_2 a3_3 a3_4
      refine ⟨fun z => ?_, fun z => ?_⟩
      · replace h1 := h1.1 z
        replace h2 := h2.1 z
        exact ⟨h1, h2⟩
      · replace h1 := h1.2 z
        replace h2 := h2.2 z
        intro x28 a4_0 x34 a4_1
        replace h1 := h1 x28 a4_0 x34 a4_1
        replace h2 := h2 x28 a4_0 x34 a4_1
        obtain ⟨P1, c1, h1⟩ := h1
        obtain ⟨P2, c2, h2⟩ := h2
        refine ⟨fun v g => P1 v g ∧ P2 v g, cj_2318 c1 c2, ?_⟩
        intro y41 g42 a4_0 a4_1 g48 a4_2
        replace h1 := h1 y41 g42 a4_0 a4_1.1 g48 a4_2
        replace h2 := h2 y41 g42 a4_0 a4_1.2 g48 a4_2
        obtain ⟨P1, c1, h1⟩ := h1
        obtain ⟨P2, c2, h2⟩ := h2
        refine ⟨fun g => P1 g ∧ P2 g, cj_2321 c1 c2, ?_⟩
        intro g54 a4_0 a4_1
        replace h1 := h1 g54 a4_0 a4_1.1
        replace h2 := h2 g54 a4_0 a4_1.2
        obtain ⟨P1, c1, h1⟩ := h1
        obtain ⟨P2, c2, h2⟩ := h2
        refine ⟨fun v g => P1 v g ∧ P2 v g, cj_2322 c1 c2, ?_⟩
        intro x61 g64 a4_0 a4_1 g70 a4_2
        replace h1 := h1 x61 g64 a4_0 a4_1.1 g70 a4_2
        replace h2 := h2 x61 g64 a4_0 a4_1.2 g70 a4_2
        obtain ⟨P1, c1, h1⟩ := h1
        obtain ⟨P2, c2, h2⟩ := h2
        refine ⟨fun g => P1 g ∧ P2 g, cj_2321 c1 c2, ?_⟩
        intro g76 a4_0 a4_1
        replace h1 := h1 g76 a4_0 a4_1.1
        replace h2 := h2 g76 a4_0 a4_1.2
        obtain ⟨P1, c1, h1⟩ := h1
        obtain ⟨P2, c2, h2⟩ := h2
        refine ⟨fun v g => P1 v g ∧ P2 v g, cj_2322 c1 c2, ?_⟩
        intro x83 g86 a4_0 a4_1 g92 a4_2
        replace h1 := h1 x83 g86 a4_0 a4_1.1 g92 a4_2
        replace h2 := h2 x83 g86 a4_0 a4_1.2 g92 a4_2
        obtain ⟨P1, c1, h1⟩ := h1
        obtain ⟨P2, c2, h2⟩ := h2
        refine ⟨fun g => P1 g ∧ P2 g, cj_2321 c1 c2, ?_⟩
        intro g98 a4_0 a4_1
        replace h1 := h1 g98 a4_0 a4_1.1
        replace h2 := h2 g98 a4_0 a4_1.2
        obtain ⟨P1, c1, h1⟩ := h1
        obtain ⟨P2, c2, h2⟩ := h2
        refine ⟨fun v g => P1 v g ∧ P2 v g, cj_2322 c1 c2, ?_⟩
        intro x105 g108 a4_0 a4_1 g114 a4_2
        replace h1 := h1 x105 g108 a4_0 a4_1.1 g114 a4_2
        replace h2 := h2 x105 g108 a4_0 a4_1.2 g114 a4_2
        obtain ⟨P1, c1, h1⟩ := h1
        obtain ⟨P2, c2, h2⟩ := h2
        refine ⟨fun g => P1 g ∧ P2 g, cj_2321 c1 c2, ?_⟩
        intro g120 a4_0 a4_1
        replace h1 := h1 g120 a4_0 a4_1.1
        replace h2 := h2 g120 a4_0 a4_1.2
        obtain ⟨P1, c1, h1⟩ := h1
        obtain ⟨P2, c2, h2⟩ := h2
        refine ⟨fun v g => P1 v g ∧ P2 v g, cj_2322 c1 c2, ?_⟩
        intro x127 g130 a4_0 a4_1 g136 a4_2
        replace h1 := h1 x127 g130 a4_0 a4_1.1 g136 a4_2
        replace h2 := h2 x127 g130 a4_0 a4_1.2 g136 a4_2
        obtain ⟨P1, c1, h1⟩ := h1
        obtain ⟨P2, c2, h2⟩ := h2
        refine ⟨fun g => P1 g ∧ P2 g, cj_2324 c1 c2, ?_⟩
        intro g142 a4_0 a4_1 x144 a4_2 a4_3 a4_4
        replace h1 := h1 g142 a4_0 a4_1.1 x144 a4_2 a4_3 a4_4
        replace h2 := h2 g142 a4_0 a4_1.2 x144 a4_2 a4_3 a4_4
        refine ⟨fun z => ?_, fun z => ?_⟩
        · replace h1 := h1.1 z
          replace h2 := h2.1 z
          exact ⟨h1, h2⟩
        · replace h1 := h1.2 z
          replace h2 := h2.2 z
          intro x154 a5_0 g160 a5_1
          replace h1 := h1 x154 a5_0 g160 a5_1
          replace h2 := h2 x154 a5_0 g160 a5_1
          exact ⟨h1, h2⟩
  · replace h1 := h1.2 z
    replace h2 := h2.2 z
    intro x161 a2_0 a2_1 a2_2
    replace h1 := h1 x161 a2_0 a2_1 a2_2
    replace h2 := h2 x161 a2_0 a2_1 a2_2
    refine ⟨fun z => ?_, fun z => ?_⟩
    · replace h1 := h1.1 z
      replace h2 := h2.1 z
      exact ⟨h1, h2⟩
    · replace h1 := h1.2 z
      replace h2 := h2.2 z
      intro x166 a3_0 a3_1 a3_2 g174 a3_3 g179 a3_4
      replace h1 := h1 x166 a3_0 a3_1 a3_2 g174 a3_3 g179 a3_4
      replace h2 := h2 x166 a3_0 a3_1 a3_2 g174 a3_3 g179 a3_4
      exact ⟨h1, h2⟩
set_option maxRecDepth 100000 in
def p_2325 (s0 : zF) (Q : zF → Prop) : Prop :=
  ∀ x1 : Int, x1 = s0 (386) 8 → 0 ≤ x1 → x1 ≤ 5 → (¬ x1 = 0 → Q s0) ∧ (x1 = 0 → ∃ P8 : zF → Prop, p_2310 s0 P8 ∧ ∀ g11 : zF, zFr [(386, 387, 3), (386, 387, 4), (386, 387, 5), (386, 387, 6), (386, 387, 7), (386, 387, 8), (386, 387, 9)] s0 g11 → P8 g11 → ∀ x13 : Int, x13 = g11 (386) 8 → 0 ≤ x13 → x13 ≤ 5 → (¬ x13 = 0 → Q g11) ∧ (x13 = 0 → ∃ P20 : Int → zF → Prop, p_2322 g11 0 99 P20 ∧ ∀ x23 : Int, ∀ g26 : zF, zFr [(386, 387, 3), (386, 387, 4), (386, 387, 5), (386, 387, 6), (386, 387, 7), (386, 387, 8), (386, 387, 9)] g11 g26 → P20 x23 g26 → ∃ P30 : zF → Prop, p_2321 g26 24948 P30 ∧ ∀ g33 : zF, zFr [(386, 387, 3), (386, 387, 4), (386, 387, 5), (386, 387, 6), (386, 387, 7), (386, 387, 8), (386, 387, 9)] g26 g33 → P30 g33 → ∃ P37 : Int → zF → Prop, p_2322 g33 0 10 P37 ∧ ∀ x40 : Int, ∀ g43 : zF, zFr [(386, 387, 3), (386, 387, 4), (386, 387, 5), (386, 387, 6), (386, 387, 7), (386, 387, 8), (386, 387, 9)] g33 g43 → P37 x40 g43 → ∀ x45 : Int, x45 = g43 (386) 8 → 0 ≤ x45 → x45 ≤ 5 → (¬ x45 = 0 → Q g43) ∧ (x45 = 0 → ∀ x50 : Int, x50 = g43 (386) 35 → 0 ≤ x50 → x50 ≤ 1 → ∀ x54 : Int, x54 = 11 * x50 → (-2147483648 ≤ x54 + x40 ∧ x54 + x40 ≤ 2147483647) → ∀ x57 : Int, x57 = x54 + x40 → (0 ≤ x57 ∧ x57 ≤ 21) → ∀ g64 : zF, g64 = zup g43 (395) x57.toNat x23 → Q g64)))
set_option maxRecDepth 100000 in
theorem cj_2325 {s0 : zF} {Q1 Q2 : zF → Prop} (h1 : b_2325 s0 Q1) (h2 : p_2325 s0 Q2) : b_2325 s0 (fun g => Q1 g ∧ Q2 g) := by
  unfold b_2325 at h1 ⊢
  unfold p_2325 at h2
  intro x1 a1_0 a1_1 a1_2
  replace h1 := h1 x1 a1_0 a1_1 a1_2
  replace h2 := h2 x1 a1_0 a1_1 a1_2
  refine ⟨fun z => ?_, fun z => ?_⟩
  · replace h1 := h1.1 z
    replace h2 := h2.1 z
    exact ⟨h1, h2⟩
  · replace h1 := h1.2 z
    replace h2 := h2.2 z
    obtain ⟨P1, c1, h1⟩ := h1
    obtain ⟨P2, c2, h2⟩ := h2
    refine ⟨fun g => P1 g ∧ P2 g, cj_2310 c1 c2, ?_⟩
    intro g11 a2_0 a2_1 x13 a2_2 a2_3 a2_4
    replace h1 := h1 g11 a2_0 a2_1.1 x13 a2_2 a2_3 a2_4
    replace h2 := h2 g11 a2_0 a2_1.2 x13 a2_2 a2_3 a2_4
    refine ⟨fun z => ?_, fun z => ?_⟩
    · replace h1 := h1.1 z
      replace h2 := h2.1 z
      exact ⟨h1, h2⟩
    · replace h1 := h1.2 z
      replace h2 := h2.2 z
      obtain ⟨P1, c1, h1⟩ := h1
      obtain ⟨P2, c2, h2⟩ := h2
      refine ⟨fun v g => P1 v g ∧ P2 v g, cj_2322 c1 c2, ?_⟩
      intro x23 g26 a3_0 a3_1
      replace h1 := h1 x23 g26 a3_0 a3_1.1
      replace h2 := h2 x23 g26 a3_0 a3_1.2
      obtain ⟨P1, c1, h1⟩ := h1
      obtain ⟨P2, c2, h2⟩ := h2
      refine ⟨fun g => P1 g ∧ P2 g, cj_2321 c1 c2, ?_⟩
      intro g33 a3_0 a3_1
      replace h1 := h1 g33 a3_0 a3_1.1
      replace h2 := h2 g33 a3_0 a3_1.2
      obtain ⟨P1, c1, h1⟩ := h1
      obtain ⟨P2, c2, h2⟩ := h2
      refine ⟨fun v g => P1 v g ∧ P2 v g, cj_2322 c1 c2, ?_⟩
      intro x40 g43 a3_0 a3_1 x45 a3_2 a3_3 a3_4
      replace h1 := h1 x40 g43 a3_0 a3_1.1 x45 a3_2 a3_3 a3_4
      replace h2 := h2 x40 g43 a3_0 a3_1.2 x45 a3_2 a3_3 a3_4
      refine ⟨fun z => ?_, fun z => ?_⟩
      · replace h1 := h1.1 z
        replace h2 := h2.1 z
        exact ⟨h1, h2⟩
      · replace h1 := h1.2 z
        replace h2 := h2.2 z
        intro x50 a4_0 a4_1 a4_2 x54 a4_3
        replace h1 := h1 x50 a4_0 a4_1 a4_2 x54 a4_3
        replace h2 := h2 x50 a4_0 a4_1 a4_2 x54 a4_3
        refine ⟨h1.1, ?_⟩
        replace h2 := h2 h1.1
        replace h1 := h1.2
        intro x57 a4_0
        replace h1 := h1 x57 a4_0
        replace h2 := h2 x57 a4_0
        refine ⟨h1.1, ?_⟩
        replace h2 := h2 h1.1
        replace h1 := h1.2
        intro g64 a4_0
        replace h1 := h1 g64 a4_0
        replace h2 := h2 g64 a4_0
        exact ⟨h1, h2⟩
set_option maxRecDepth 100000 in
def p_2326 (s0 : zF) (Q : zF → Prop) : Prop :=
  ∀ x1 : Int, x1 = s0 (386) 35 → 0 ≤ x1 → x1 ≤ 1 → ∀ x8 : Int, x8 = s0 (396) x1.toNat → 0 ≤ x8 → x8 ≤ 6 → (¬ x8 = 6 → ∀ x10 : Int, x10 = s0 (386) 8 → 0 ≤ x10 → x10 ≤ 5 → (¬ x10 = 0 → Q s0) ∧ (x10 = 0 → ∃ P17 : zF → Prop, p_2310 s0 P17 ∧ ∀ g20 : zF, zFr [(386, 387, 3), (386, 387, 4), (386, 387, 5), (386, 387, 6), (386, 387, 7), (386, 387, 8), (386, 387, 9)] s0 g20 → P17 g20 → ∀ x22 : Int, x22 = g20 (386) 8 → 0 ≤ x22 → x22 ≤ 5 → (¬ x22 = 0 → Q g20) ∧ (x22 = 0 → ∀ x28 : Int, x28 = 6 * x1 → ∀ x34 : Int, x34 = x28 + x8 → ∃ P38 : Int → zF → Prop, p_2318 g20 P38 ∧ ∀ y41 : Int, ∀ g42 : zF, zFr [(386, 387, 3), (386, 387, 4), (386, 387, 5), (386, 387, 6), (386, 387, 7), (386, 387, 8), (386, 387, 9)] g20 g42 → P38 y41 g42 → ∀ g48 : zF, g48 = zup g42 (397) x34.toNat y41 → ∃ P51 : zF → Prop, p_2321 g48 7632231 P51 ∧ ∀ g54 : zF, zFr [(386, 387, 3), (386, 387, 4), (386, 387, 5), (386, 387, 6), (386, 387, 7), (386, 387, 8), (386, 387, 9)] g48 g54 → P51 g54 → ∃ P58 : Int → zF → Prop, p_2322 g54 1 999 P58 ∧ ∀ x61 : Int, ∀ g64 : zF, zFr [(386, 387, 3), (386, 387, 4), (386, 387, 5), (386, 387, 6), (386, 387, 7), (386, 387, 8), (386, 387, 9)] g54 g64 → P58 x61 g64 → ∀ g70 : zF, g70 = zup g64 (398) x34.toNat x61 → ∃ P73 : zF → Prop, p_2321 g70 465491424371 P73 ∧ ∀ g76 : zF, zFr [(386, 387, 3), (386, 387, 4), (386, 387, 5), (386, 387, 6), (386, 387, 7), (386, 387, 8), (386, 387, 9)] g70 g76 → P73 g76 → ∃ P80 : Int → zF → Prop, p_2322 g76 1 60 P80 ∧ ∀ x83 : Int, ∀ g86 : zF, zFr [(386, 387, 3), (386, 387, 4), (386, 387, 5), (386, 387, 6), (386, 387, 7), (386, 387, 8), (386, 387, 9)] g76 g86 → P80 x83 g86 → ∀ g92 : zF, g92 = zup g86 (399) x34.toNat x83 → ∃ P95 : zF → Prop, p_2321 g92 123563851081075 P95 ∧ ∀ g98 : zF, zFr [(386, 387, 3), (386, 387, 4), (386, 387, 5), (386, 387, 6), (386, 387, 7), (386, 387, 8), (386, 387, 9)] g92 g98 → P95 g98 → ∃ P102 : Int → zF → Prop, p_2322 g98 1 999 P102 ∧ ∀ x105 : Int, ∀ g108 : zF, zFr [(386, 387, 3), (386, 387, 4), (386, 387, 5), (386, 387, 6), (386, 387, 7), (386, 387, 8), (386, 387, 9)] g98 g108 → P102 x105 g108 → ∀ g114 : zF, g114 = zup g108 (400) x34.toNat x105 → ∃ P117 : zF → Prop, p_2321 g114 1868850291 P117 ∧ ∀ g120 : zF, zFr [(386, 387, 3), (386, 387, 4), (386, 387, 5), (386, 387, 6), (386, 387, 7), (386, 387, 8), (386, 387, 9)] g114 g120 → P117 g120 → ∃ P124 : Int → zF → Prop, p_2322 g120 1 99 P124 ∧ ∀ x127 : Int, ∀ g130 : zF, zFr [(386, 387, 3), (386, 387, 4), (386, 387, 5), (386, 387, 6), (386, 387, 7), (386, 387, 8), (386, 387, 9)] g120 g130 → P124 x127 g130 → ∀ g136 : zF, g136 = zup g130 (401) x34.toNat x127 → ∀ x137 : Int, x137 = g136 (386) 8 → 0 ≤ x137 → x137 ≤ 5 → (¬ x137 = 0 → Q g136) ∧ (x137 = 0 → ∀ x147 : Int, x147 = x8 + 1 → ∀ g153 : zF, g153 = zup g136 (396) x1.toNat x147 → Q g153)))) ∧ (x8 = 6 → ∀ x154 : Int, x154 = s0 (386) 8 → 0 ≤ x154 → x154 ≤ 5 → (¬ x154 = 0 → Q s0) ∧ (x154 = 0 → ∀ x159 : Int, x159 = s0 (386) 4 → 0 ≤ x159 → x159 ≤ 1600 → ∀ g167 : zF, g167 = zup s0 (386) 8 5 → ∀ g172 : zF, g172 = zup g167 (386) 9 x159 → Q g172))
set_option maxRecDepth 100000 in
theorem cj_2326 {s0 : zF} {Q1 Q2 : zF → Prop} (h1 : b_2326 s0 Q1) (h2 : p_2326 s0 Q2) : b_2326 s0 (fun g => Q1 g ∧ Q2 g) := by
  unfold b_2326 at h1 ⊢
  unfold p_2326 at h2
  intro x1 a1_0 a1_1 a1_2 x8 a1_3 a1_4 a1_5
  replace h1 := h1 x1 a1_0 a1_1 a1_2 x8 a1_3 a1_4 a1_5
  replace h2 := h2 x1 a1_0 a1_1 a1_2 x8 a1_3 a1_4 a1_5
  refine ⟨fun z => ?_, fun z => ?_⟩
  · replace h1 := h1.1 z
    replace h2 := h2.1 z
    intro x10 a2_0 a2_1 a2_2
    replace h1 := h1 x10 a2_0 a2_1 a2_2
    replace h2 := h2 x10 a2_0 a2_1 a2_2
    refine ⟨fun z => ?_, fun z => ?_⟩
    · replace h1 := h1.1 z
      replace h2 := h2.1 z
      exact ⟨h1, h2⟩
    · replace h1 := h1.2 z
      replace h2 := h2.2 z
      obtain ⟨P1, c1, h1⟩ := h1
      obtain ⟨P2, c2, h2⟩ := h2
      refine ⟨fun g => P1 g ∧ P2 g, cj_2310 c1 c2, ?_⟩
      intro g20 a3_0 a3_1 x22 a3_2 a3_3 a3_4
      replace h1 := h1 g20 a3_0 a3_1.1 x22 a3_2 a3_3 a3_4
      replace h2 := h2 g20 a3_0 a3_1.2 x22 a3_2 a3_3 a3_4
      refine ⟨fun z => ?_, fun z => ?_⟩
      · replace h1 := h1.1 z
        replace h2 := h2.1 z
        exact ⟨h1, h2⟩
      · replace h1 := h1.2 z
        replace h2 := h2.2 z
        intro x28 a4_0 x34 a4_1
        replace h1 := h1 x28 a4_0 x34 a4_1
        replace h2 := h2 x28 a4_0 x34 a4_1
        obtain ⟨P1, c1, h1⟩ := h1
        obtain ⟨P2, c2, h2⟩ := h2
        refine ⟨fun v g => P1 v g ∧ P2 v g, cj_2318 c1 c2, ?_⟩
        intro y41 g42 a4_0 a4_1 g48 a4_2
        replace h1 := h1 y41 g42 a4_0 a4_1.1 g48 a4_2
        replace h2 := h2 y41 g42 a4_0 a4_1.2 g48 a4_2
        obtain ⟨P1, c1, h1⟩ := h1
        obtain ⟨P2, c2, h2⟩ := h2
        refine ⟨fun g => P1 g ∧ P2 g, cj_2321 c1 c2, ?_⟩
        intro g54 a4_0 a4_1
        replace h1 := h1 g54 a4_0 a4_1.1
        replace h2 := h2 g54 a4_0 a4_1.2
        obtain ⟨P1, c1, h1⟩ := h1
        obtain ⟨P2, c2, h2⟩ := h2
        refine ⟨fun v g => P1 v g ∧ P2 v g, cj_2322 c1 c2, ?_⟩
        intro x61 g64 a4_0 a4_1 g70 a4_2
        replace h1 := h1 x61 g64 a4_0 a4_1.1 g70 a4_2
        replace h2 := h2 x61 g64 a4_0 a4_1.2 g70 a4_2
        obtain ⟨P1, c1, h1⟩ := h1
        obtain ⟨P2, c2, h2⟩ := h2
        refine ⟨fun g => P1 g ∧ P2 g, cj_2321 c1 c2, ?_⟩
        intro g76 a4_0 a4_1
        replace h1 := h1 g76 a4_0 a4_1.1
        replace h2 := h2 g76 a4_0 a4_1.2
        obtain ⟨P1, c1, h1⟩ := h1
        obtain ⟨P2, c2, h2⟩ := h2
        refine ⟨fun v g => P1 v g ∧ P2 v g, cj_2322 c1 c2, ?_⟩
        intro x83 g86 a4_0 a4_1 g92 a4_2
        replace h1 := h1 x83 g86 a4_0 a4_1.1 g92 a4_2
        replace h2 := h2 x83 g86 a4_0 a4_1.2 g92 a4_2
        obtain ⟨P1, c1, h1⟩ := h1
        obtain ⟨P2, c2, h2⟩ := h2
        refine ⟨fun g => P1 g ∧ P2 g, cj_2321 c1 c2, ?_⟩
        intro g98 a4_0 a4_1
        replace h1 := h1 g98 a4_0 a4_1.1
        replace h2 := h2 g98 a4_0 a4_1.2
        obtain ⟨P1, c1, h1⟩ := h1
        obtain ⟨P2, c2, h2⟩ := h2
        refine ⟨fun v g => P1 v g ∧ P2 v g, cj_2322 c1 c2, ?_⟩
        intro x105 g108 a4_0 a4_1 g114 a4_2
        replace h1 := h1 x105 g108 a4_0 a4_1.1 g114 a4_2
        replace h2 := h2 x105 g108 a4_0 a4_1.2 g114 a4_2
        obtain ⟨P1, c1, h1⟩ := h1
        obtain ⟨P2, c2, h2⟩ := h2
        refine ⟨fun g => P1 g ∧ P2 g, cj_2321 c1 c2, ?_⟩
        intro g120 a4_0 a4_1
        replace h1 := h1 g120 a4_0 a4_1.1
        replace h2 := h2 g120 a4_0 a4_1.2
        obtain ⟨P1, c1, h1⟩ := h1
        obtain ⟨P2, c2, h2⟩ := h2
        refine ⟨fun v g => P1 v g ∧ P2 v g, cj_2322 c1 c2, ?_⟩
        intro x127 g130 a4_0 a4_1 g136 a4_2 x137 a4_3 a4_4 a4_5
        replace h1 := h1 x127 g130 a4_0 a4_1.1 g136 a4_2 x137 a4_3 a4_4 a4_5
        replace h2 := h2 x127 g130 a4_0 a4_1.2 g136 a4_2 x137 a4_3 a4_4 a4_5
        refine ⟨fun z => ?_, fun z => ?_⟩
        · replace h1 := h1.1 z
          replace h2 := h2.1 z
          exact ⟨h1, h2⟩
        · replace h1 := h1.2 z
          replace h2 := h2.2 z
          intro x147 a5_0 g153 a5_1
          replace h1 := h1 x147 a5_0 g153 a5_1
          replace h2 := h2 x147 a5_0 g153 a5_1
          exact ⟨h1, h2⟩
  · replace h1 := h1.2 z
    replace h2 := h2.2 z
    intro x154 a2_0 a2_1 a2_2
    replace h1 := h1 x154 a2_0 a2_1 a2_2
    replace h2 := h2 x154 a2_0 a2_1 a2_2
    refine ⟨fun z => ?_, fun z => ?_⟩
    · replace h1 := h1.1 z
      replace h2 := h2.1 z
      exact ⟨h1, h2⟩
    · replace h1 := h1.2 z
      replace h2 := h2.2 z
      intro x159 a3_0 a3_1 a3_2 g167 a3_3 g172 a3_4
      replace h1 := h1 x159 a3_0 a3_1 a3_2 g167 a3_3 g172 a3_4
      replace h2 := h2 x159 a3_0 a3_1 a3_2 g167 a3_3 g172 a3_4
      exact ⟨h1, h2⟩
