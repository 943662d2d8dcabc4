/-! partial conditions of the reference (wip/safe/vcp.py) -/
set_option maxRecDepth 100000 in
def p_2328 (s0 : zF) (a0 : Int) (Q : zF → Prop) : Prop :=
  ∃ (I43 : zF → Int → Prop),
    (∀ x43 : Int, x43 = s0 (386) 8 → 0 ≤ x43 → x43 ≤ 5 → (0 < x43 → Q s0) ∧ (x43 ≤ 0 → ∀ g52 : zF, g52 = zup s0 (386) 41 0 → ∀ g57 : zF, g57 = zup g52 (386) 42 0 → ∀ g62 : zF, g62 = zup g57 (386) 44 0 → ∀ g67 : zF, g67 = zup g62 (386) 45 0 → (¬ a0 = 0 → ∃ P71 : zF → Prop, p_2329 g67 1 P71 ∧ ∀ g74 : zF, zFr [(409, 412, 1000), (413, 414, 1000), (386, 387, 41)] g67 g74 → P71 g74 → I43 g74 1) ∧ (a0 = 0 → ∃ P78 : zF → Prop, p_2329 g67 0 P78 ∧ ∀ g81 : zF, zFr [(409, 412, 1000), (413, 414, 1000), (386, 387, 41)] g67 g81 → P78 g81 → I43 g81 1))) ∧
    (∀ (g : zF) (v43_2 : Int), zFr [(407, 415, 1000), (386, 387, 3), (386, 387, 34), (386, 387, 4), (386, 387, 41), (386, 387, 42), (386, 387, 44), (386, 387, 45), (386, 387, 5), (386, 387, 6), (386, 387, 7), (386, 387, 8), (386, 387, 9)] s0 g → 0 ≤ v43_2 → v43_2 ≤ 1 → I43 g v43_2 → (¬ v43_2 = 0 → ∀ x2 : Int, x2 = g (386) 45 → 0 ≤ x2 → x2 ≤ 1 → (¬ x2 = 0 → ∃ P9 : Int → zF → Prop, p_2336 g P9 ∧ ∀ x12 : Int, 0 ≤ x12 → x12 ≤ 1 → ∀ g15 : zF, zFr [(407, 412, 1000), (414, 415, 1000), (386, 387, 3), (386, 387, 34), (386, 387, 4), (386, 387, 41), (386, 387, 42), (386, 387, 44), (386, 387, 45), (386, 387, 5), (386, 387, 6), (386, 387, 7), (386, 387, 8), (386, 387, 9)] g g15 → P9 x12 g15 → (¬ x12 = 0 → ∀ x18 : Int, x18 = g15 (386) 8 → 0 ≤ x18 → x18 ≤ 5 → (¬ x18 = 0 → I43 g15 0) ∧ (x18 = 0 → I43 g15 1)) ∧ (x12 = 0 → I43 g15 0)) ∧ (x2 = 0 → ∃ P25 : Int → zF → Prop, p_2330 g P25 ∧ ∀ x28 : Int, 0 ≤ x28 → x28 ≤ 1 → ∀ g31 : zF, zFr [(407, 415, 1000), (386, 387, 3), (386, 387, 34), (386, 387, 4), (386, 387, 41), (386, 387, 42), (386, 387, 44), (386, 387, 5), (386, 387, 6), (386, 387, 7), (386, 387, 8), (386, 387, 9)] g g31 → P25 x28 g31 → ∀ g37 : zF, g37 = zup g31 (386) 45 x28 → ∀ x38 : Int, x38 = g37 (386) 8 → 0 ≤ x38 → x38 ≤ 5 → (¬ x38 = 0 → I43 g37 0) ∧ (x38 = 0 → I43 g37 1))) ∧ (v43_2 = 0 → Q g))
set_option maxRecDepth 100000 in
theorem cj_2328 {s0 : zF} {a0 : Int} {Q1 Q2 : zF → Prop} (h1 : b_2328 s0 a0 Q1) (h2 : p_2328 s0 a0 Q2) : b_2328 s0 a0 (fun g => Q1 g ∧ Q2 g) := by
  obtain ⟨I43, h1E, h1_0⟩ := h1
  obtain ⟨J43, h2E, h2_0⟩ := h2
  refine ⟨fun n g y0 => I43 n g y0 ∧ J43 g y0, ?_, ?_⟩
  · have h1 := h1E
    have h2 := h2E
    clear h1E h2E h1_0 h2_0
    intro x43 a2_0 a2_1 a2_2
    replace h1 := h1 x43 a2_0 a2_1 a2_2
    replace h2 := h2 x43 a2_0 a2_1 a2_2
    refine ⟨fun z => ?_, fun z => ?_⟩
    · replace h1 := h1.1 z
      replace h2 := h2.1 z
      exact ⟨h1, h2⟩
    · replace h1 := h1.2 z
      replace h2 := h2.2 z
      intro g52 a3_0 g57 a3_1 g62 a3_2 g67 a3_3
      replace h1 := h1 g52 a3_0 g57 a3_1 g62 a3_2 g67 a3_3
      replace h2 := h2 g52 a3_0 g57 a3_1 g62 a3_2 g67 a3_3
      refine ⟨fun z => ?_, fun z => ?_⟩
      · replace h1 := h1.1 z
        replace h2 := h2.1 z
        obtain ⟨P1, c1, h1⟩ := h1
        obtain ⟨P2, c2, h2⟩ := h2
        refine ⟨fun g => P1 g ∧ P2 g, cj_2329 c1 c2, ?_⟩
        intro g74 a4_0 a4_1
        replace h1 := h1 g74 a4_0 a4_1.1
        replace h2 := h2 g74 a4_0 a4_1.2
        obtain ⟨m, hi⟩ := h1
        exact ⟨m, hi, h2⟩
      · replace h1 := h1.2 z
        replace h2 := h2.2 z
        obtain ⟨P1, c1, h1⟩ := h1
        obtain ⟨P2, c2, h2⟩ := h2
        refine ⟨fun g => P1 g ∧ P2 g, cj_2329 c1 c2, ?_⟩
        intro g81 a4_0 a4_1
        replace h1 := h1 g81 a4_0 a4_1.1
        replace h2 := h2 g81 a4_0 a4_1.2
        obtain ⟨m, hi⟩ := h1
        exact ⟨m, hi, h2⟩
  · intro n g v43_2 e0 e1 e2 hI
    have h1 := h1_0 n g v43_2 e0 e1 e2 hI.1
    have h2 := h2_0 g v43_2 e0 e1 e2 hI.2
    clear h1E h2E hI h1_0 h2_0
    refine ⟨fun z => ?_, fun z => ?_⟩
    · replace h1 := h1.1 z
      replace h2 := h2.1 z
      intro x2 a3_0 a3_1 a3_2
      replace h1 := h1 x2 a3_0 a3_1 a3_2
      replace h2 := h2 x2 a3_0 a3_1 a3_2
      refine ⟨fun z => ?_, fun z => ?_⟩
      · replace h1 := h1.1 z
        replace h2 := h2.1 z
        obtain ⟨P1, c1, h1⟩ := h1
        obtain ⟨P2, c2, h2⟩ := h2
        refine ⟨fun v g => P1 v g ∧ P2 v g, cj_2336 c1 c2, ?_⟩
        intro x12 a4_0 a4_1 g15 a4_2 a4_3
        replace h1 := h1 x12 a4_0 a4_1 g15 a4_2 a4_3.1
        replace h2 := h2 x12 a4_0 a4_1 g15 a4_2 a4_3.2
        refine ⟨fun z => ?_, fun z => ?_⟩
        · replace h1 := h1.1 z
          replace h2 := h2.1 z
          intro x18 a5_0 a5_1 a5_2
          replace h1 := h1 x18 a5_0 a5_1 a5_2
          replace h2 := h2 x18 a5_0 a5_1 a5_2
          refine ⟨fun z => ?_, fun z => ?_⟩
          · replace h1 := h1.1 z
            replace h2 := h2.1 z
            obtain ⟨m, hm, hi⟩ := h1
            exact ⟨m, hm, hi, h2⟩
          · replace h1 := h1.2 z
            replace h2 := h2.2 z
            obtain ⟨m, hm, hi⟩ := h1
            exact ⟨m, hm, hi, h2⟩
        · replace h1 := h1.2 z
          replace h2 := h2.2 z
          obtain ⟨m, hm, hi⟩ := h1
          exact ⟨m, hm, hi, h2⟩
      · replace h1 := h1.2 z
        replace h2 := h2.2 z
        obtain ⟨P1, c1, h1⟩ := h1
        obtain ⟨P2, c2, h2⟩ := h2
        refine ⟨fun v g => P1 v g ∧ P2 v g, cj_2330 c1 c2, ?_⟩
        intro x28 a4_0 a4_1 g31 a4_2 a4_3 g37 a4_4 x38 a4_5 a4_6 a4_7
        replace h1 := h1 x28 a4_0 a4_1 g31 a4_2 a4_3.1 g37 a4_4 x38 a4_5 a4_6 a4_7
        replace h2 := h2 x28 a4_0 a4_1 g31 a4_2 a4_3.2 g37 a4_4 x38 a4_5 a4_6 a4_7
        refine ⟨fun z => ?_, fun z => ?_⟩
        · replace h1 := h1.1 z
          replace h2 := h2.1 z
          obtain ⟨m, hm, hi⟩ := h1
          exact ⟨m, hm, hi, h2⟩
        · replace h1 := h1.2 z
          replace h2 := h2.2 z
          obtain ⟨m, hm, hi⟩ := h1
          exact ⟨m, hm, hi, h2⟩
    · replace h1 := h1.2 z
      replace h2 := h2.2 z
      exact ⟨h1, h2⟩
set_option maxRecDepth 100000 in
def p_2327 (s0 : zF) (a0 : Int) (Q : zF → Prop) : Prop :=
  ∀ x1 : Int, x1 = s0 (386) 35 → 0 ≤ x1 → x1 ≤ 1 → ∀ x8 : Int, x8 = s0 (402) x1.toNat → 0 ≤ x8 → x8 ≤ 8 → (¬ x8 = 8 → ∀ x10 : Int, x10 = s0 (386) 8 → 0 ≤ x10 → x10 ≤ 5 → (¬ x10 = 0 → Q s0) ∧ (x10 = 0 → ∃ P17 : zF → Prop, p_2310 s0 P17 ∧ ∀ g20 : zF, zFr [(386, 387, 3), (386, 387, 4), (386, 387, 5), (386, 387, 6), (386, 387, 7), (386, 387, 8), (386, 387, 9)] s0 g20 → P17 g20 → ∀ x22 : Int, x22 = g20 (386) 8 → 0 ≤ x22 → x22 ≤ 5 → (¬ x22 = 0 → Q g20) ∧ (x22 = 0 → ∀ x28 : Int, x28 = 8 * x1 → ∀ x34 : Int, x34 = x28 + x8 → (0 ≤ a0 ∧ a0 ≤ 1) → ∀ g41 : zF, g41 = zup g20 (403) x34.toNat a0 → ∀ x42 : Int, x42 = g41 (386) 34 → 0 ≤ x42 → x42 ≤ 1600 → ∀ g50 : zF, g50 = zup g41 (404) x34.toNat x42 → ∃ P53 : zF → Prop, p_2328 g50 0 P53 ∧ ∀ g56 : zF, zFr [(407, 415, 1000), (386, 387, 3), (386, 387, 34), (386, 387, 4), (386, 387, 41), (386, 387, 42), (386, 387, 44), (386, 387, 45), (386, 387, 5), (386, 387, 6), (386, 387, 7), (386, 387, 8), (386, 387, 9)] g50 g56 → P53 g56 → ∀ x58 : Int, x58 = g56 (386) 34 → 0 ≤ x58 → x58 ≤ 1600 → ∀ g66 : zF, g66 = zup g56 (405) x34.toNat x58 → ∃ P69 : zF → Prop, p_2321 g66 2003330414 P69 ∧ ∀ g72 : zF, zFr [(386, 387, 3), (386, 387, 4), (386, 387, 5), (386, 387, 6), (386, 387, 7), (386, 387, 8), (386, 387, 9)] g66 g72 → P69 g72 → ∃ P76 : zF → Prop, p_2328 g72 1 P76 ∧ ∀ g79 : zF, zFr [(407, 415, 1000), (386, 387, 3), (386, 387, 34), (386, 387, 4), (386, 387, 41), (386, 387, 42), (386, 387, 44), (386, 387, 45), (386, 387, 5), (386, 387, 6), (386, 387, 7), (386, 387, 8), (386, 387, 9)] g72 g79 → P76 g79 → ∀ x81 : Int, x81 = g79 (386) 34 → 0 ≤ x81 → x81 ≤ 1600 → ∀ g89 : zF, g89 = zup g79 (406) x34.toNat x81 → ∀ x90 : Int, x90 = g89 (386) 8 → 0 ≤ x90 → x90 ≤ 5 → (¬ x90 = 0 → Q g89) ∧ (x90 = 0 → ∀ x100 : Int, x100 = x8 + 1 → ∀ g106 : zF, g106 = zup g89 (402) x1.toNat x100 → Q g106)))) ∧ (x8 = 8 → ∀ x107 : Int, x107 = s0 (386) 8 → 0 ≤ x107 → x107 ≤ 5 → (¬ x107 = 0 → Q s0) ∧ (x107 = 0 → ∀ x112 : Int, x112 = s0 (386) 4 → 0 ≤ x112 → x112 ≤ 1600 → ∀ g120 : zF, g120 = zup s0 (386) 8 5 → ∀ g125 : zF, g125 = zup g120 (386) 9 x112 → Q g125))
set_option maxRecDepth 100000 in
theorem cj_2327 {s0 : zF} {a0 : Int} {Q1 Q2 : zF → Prop} (h1 : b_2327 s0 a0 Q1) (h2 : p_2327 s0 a0 Q2) : b_2327 s0 a0 (fun g => Q1 g ∧ Q2 g) := by
  unfold b_2327 at h1 ⊢
  unfold p_2327 at h2
  intro x1 a1_0 a1_1 a1_2 x8 a1_3 a1_4 a1_5
  replace h1 := h1 x1 a1_0 a1_1 a1_2 x8 a1_3 a1_4 a1_5
  replace h2 := h2 x1 a1_0 a1_1 a1_2 x8 a1_3 a1_4 a1_5
  refine ⟨fun z => ?_, fun z => ?_⟩
  · replace h1 := h1.1 z
    replace h2 := h2.1 z
    intro x10 a2_0 a2_1 a2_2
    replace h1 := h1 x10 a2_0 a2_1 a2_2
    replace h2 := h2 x10 a2_0 a2_1 a2_2
    refine ⟨fun z => ?_, fun z => ?_⟩
    · replace h1 := h1.1 z
      replace h2 := h2.1 z
      exact ⟨h1, h2⟩
    · replace h1 := h1.2 z
      replace h2 := h2.2 z
      obtain ⟨P1, c1, h1⟩ := h1
      obtain ⟨P2, c2, h2⟩ := h2
      refine ⟨fun g => P1 g ∧ P2 g, cj_2310 c1 c2, ?_⟩
      intro g20 a3_0 a3_1 x22 a3_2 a3_3 a3_4
      replace h1 := h1 g20 a3_0 a3_1.1 x22 a3_2 a3_3 a3_4
      replace h2 := h2 g20 a3_0 a3_1.2 x22 a3_2 a3_3 a3_4
      refine ⟨fun z => ?_, fun z => ?_⟩
      · replace h1 := h1.1 z
        replace h2 := h2.1 z
        exact ⟨h1, h2⟩
      · replace h1 := h1.2 z
        replace h2 := h2.2 z
        intro x28 a4_0 x34 a4_1
        replace h1 := h1 x28 a4_0 x34 a4_1
        replace h2 := h2 x28 a4_0 x34 a4_1
        refine ⟨h1.1, ?_⟩
        replace h2 := h2 h1.1
        replace h1 := h1.2
        intro g41 a4_0 x42 a4_1 a4_2 a4_3 g50 a4_4
        replace h1 := h1 g41 a4_0 x42 a4_1 a4_2 a4_3 g50 a4_4
        replace h2 := h2 g41 a4_0 x42 a4_1 a4_2 a4_3 g50 a4_4
        obtain ⟨P1, c1, h1⟩ := h1
        obtain ⟨P2, c2, h2⟩ := h2
        refine ⟨fun g => P1 g ∧ P2 g, cj_2328 c1 c2, ?_⟩
        intro g56 a4_0 a4_1 x58 a4_2 a4_3 a4_4 g66 a4_5
        replace h1 := h1 g56 a4_0 a4_1.1 x58 a4_2 a4_3 a4_4 g66 a4_5
        replace h2 := h2 g56 a4_0 a4_1.2 x58 a4_2 a4_3 a4_4 g66 a4_5
        obtain ⟨P1, c1, h1⟩ := h1
        obtain ⟨P2, c2, h2⟩ := h2
        refine ⟨fun g => P1 g ∧ P2 g, cj_2321 c1 c2, ?_⟩
        intro g72 a4_0 a4_1
        replace h1 := h1 g72 a4_0 a4_1.1
        replace h2 := h2 g72 a4_0 a4_1.2
        obtain ⟨P1, c1, h1⟩ := h1
        obtain ⟨P2, c2, h2⟩ := h2
        refine ⟨fun g => P1 g ∧ P2 g, cj_2328 c1 c2, ?_⟩
        intro g79 a4_0 a4_1 x81 a4_2 a4_3 a4_4 g89 a4_5 x90 a4_6 a4_7 a4_8
        replace h1 := h1 g79 a4_0 a4_1.1 x81 a4_2 a4_3 a4_4 g89 a4_5 x90 a4_6 a4_7 a4_8
        replace h2 := h2 g79 a4_0 a4_1.2 x81 a4_2 a4_3 a4_4 g89 a4_5 x90 a4_6 a4_7 a4_8
        refine ⟨fun z => ?_, fun z => ?_⟩
        · replace h1 := h1.1 z
          replace h2 := h2.1 z
          exact ⟨h1, h2⟩
        · replace h1 := h1.2 z
          replace h2 := h2.2 z
          intro x100 a5_0 g106 a5_1
          replace h1 := h1 x100 a5_0 g106 a5_1
          replace h2 := h2 x100 a5_0 g106 a5_1
          exact ⟨h1, h2⟩
  · replace h1 := h1.2 z
    replace h2 := h2.2 z
    intro x107 a2_0 a2_1 a2_2
    replace h1 := h1 x107 a2_0 a2_1 a2_2
    replace h2 := h2 x107 a2_0 a2_1 a2_2
    refine ⟨fun z => ?_, fun z => ?_⟩
    · replace h1 := h1.1 z
      replace h2 := h2.1 z
      exact ⟨h1, h2⟩
    · replace h1 := h1.2 z
      replace h2 := h2.2 z
      intro x112 a3_0 a3_1 a3_2 g120 a3_3 g125 a3_4
      replace h1 := h1 x112 a3_0 a3_1 a3_2 g120 a3_3 g125 a3_4
      replace h2 := h2 x112 a3_0 a3_1 a3_2 g120 a3_3 g125 a3_4
      exact ⟨h1, h2⟩
set_option maxRecDepth 100000 in
def p_2314 (s0 : zF) (Q : zF → Prop) : Prop :=
  ∀ x1 : Int, x1 = s0 (386) 3 → 0 ≤ x1 → x1 ≤ 3 → (¬ x1 = 1 → (¬ x1 = 1 → (¬ x1 = 1 → (¬ x1 = 1 → (¬ x1 = 1 → ∀ x10 : Int, x10 = s0 (386) 4 → 0 ≤ x10 → x10 ≤ 1600 → ∀ x14 : Int, x14 = s0 (386) 8 → 0 ≤ x14 → x14 ≤ 5 → (0 < x14 → Q s0) ∧ (x14 ≤ 0 → ∀ g23 : zF, g23 = zup s0 (386) 8 1 → ∀ g28 : zF, g28 = zup g23 (386) 9 x10 → Q g28)) ∧ (x1 = 1 → ∀ y32 : Int, y32 = s0 (386) 7 → ∀ x33 : Int, (x33 = -1 ∧ y32 < 1684366704 ∨ x33 = 0 ∧ y32 = 1684366704 ∨ x33 = 1 ∧ 1684366704 < y32) → (¬ x33 = 0 → ∀ x36 : Int, x36 = s0 (386) 4 → 0 ≤ x36 → x36 ≤ 1600 → ∀ x40 : Int, x40 = s0 (386) 8 → 0 ≤ x40 → x40 ≤ 5 → (0 < x40 → Q s0) ∧ (x40 ≤ 0 → ∀ g49 : zF, g49 = zup s0 (386) 8 1 → ∀ g54 : zF, g54 = zup g49 (386) 9 x36 → Q g54)) ∧ (x33 = 0 → ∃ P57 : zF → Prop, p_2327 s0 1 P57 ∧ ∀ g60 : zF, zFr [(402, 415, 1000), (386, 387, 3), (386, 387, 34), (386, 387, 4), (386, 387, 41), (386, 387, 42), (386, 387, 44), (386, 387, 45), (386, 387, 5), (386, 387, 6), (386, 387, 7), (386, 387, 8), (386, 387, 9)] s0 g60 → P57 g60 → Q g60))) ∧ (x1 = 1 → ∀ y65 : Int, y65 = s0 (386) 7 → ∀ x66 : Int, (x66 = -1 ∧ y65 < 1885434739 ∨ x66 = 0 ∧ y65 = 1885434739 ∨ x66 = 1 ∧ 1885434739 < y65) → (¬ x66 = 0 → ∀ x69 : Int, (x69 = -1 ∧ y65 < 1684366704 ∨ x69 = 0 ∧ y65 = 1684366704 ∨ x69 = 1 ∧ 1684366704 < y65) → (¬ x69 = 0 → ∀ x72 : Int, x72 = s0 (386) 4 → 0 ≤ x72 → x72 ≤ 1600 → ∀ x76 : Int, x76 = s0 (386) 8 → 0 ≤ x76 → x76 ≤ 5 → (0 < x76 → Q s0) ∧ (x76 ≤ 0 → ∀ g85 : zF, g85 = zup s0 (386) 8 1 → ∀ g90 : zF, g90 = zup g85 (386) 9 x72 → Q g90)) ∧ (x69 = 0 → ∃ P93 : zF → Prop, p_2327 s0 1 P93 ∧ ∀ g96 : zF, zFr [(402, 415, 1000), (386, 387, 3), (386, 387, 34), (386, 387, 4), (386, 387, 41), (386, 387, 42), (386, 387, 44), (386, 387, 45), (386, 387, 5), (386, 387, 6), (386, 387, 7), (386, 387, 8), (386, 387, 9)] s0 g96 → P93 g96 → Q g96)) ∧ (x66 = 0 → ∃ P100 : zF → Prop, p_2327 s0 0 P100 ∧ ∀ g103 : zF, zFr [(402, 415, 1000), (386, 387, 3), (386, 387, 34), (386, 387, 4), (386, 387, 41), (386, 387, 42), (386, 387, 44), (386, 387, 45), (386, 387, 5), (386, 387, 6), (386, 387, 7), (386, 387, 8), (386, 387, 9)] s0 g103 → P100 g103 → Q g103))) ∧ (x1 = 1 → ∀ y108 : Int, y108 = s0 (386) 7 → ∀ x109 : Int, (x109 = -1 ∧ y108 < 431415976301 ∨ x109 = 0 ∧ y108 = 431415976301 ∨ x109 = 1 ∧ 431415976301 < y108) → (¬ x109 = 0 → ∀ x112 : Int, (x112 = -1 ∧ y108 < 1885434739 ∨ x112 = 0 ∧ y108 = 1885434739 ∨ x112 = 1 ∧ 1885434739 < y108) → (¬ x112 = 0 → ∀ x115 : Int, (x115 = -1 ∧ y108 < 1684366704 ∨ x115 = 0 ∧ y108 = 1684366704 ∨ x115 = 1 ∧ 1684366704 < y108) → (¬ x115 = 0 → ∀ x118 : Int, x118 = s0 (386) 4 → 0 ≤ x118 → x118 ≤ 1600 → ∀ x122 : Int, x122 = s0 (386) 8 → 0 ≤ x122 → x122 ≤ 5 → (0 < x122 → Q s0) ∧ (x122 ≤ 0 → ∀ g131 : zF, g131 = zup s0 (386) 8 1 → ∀ g136 : zF, g136 = zup g131 (386) 9 x118 → Q g136)) ∧ (x115 = 0 → ∃ P139 : zF → Prop, p_2327 s0 1 P139 ∧ ∀ g142 : zF, zFr [(402, 415, 1000), (386, 387, 3), (386, 387, 34), (386, 387, 4), (386, 387, 41), (386, 387, 42), (386, 387, 44), (386, 387, 45), (386, 387, 5), (386, 387, 6), (386, 387, 7), (386, 387, 8), (386, 387, 9)] s0 g142 → P139 g142 → Q g142)) ∧ (x112 = 0 → ∃ P146 : zF → Prop, p_2327 s0 0 P146 ∧ ∀ g149 : zF, zFr [(402, 415, 1000), (386, 387, 3), (386, 387, 34), (386, 387, 4), (386, 387, 41), (386, 387, 42), (386, 387, 44), (386, 387, 45), (386, 387, 5), (386, 387, 6), (386, 387, 7), (386, 387, 8), (386, 387, 9)] s0 g149 → P146 g149 → Q g149)) ∧ (x109 = 0 → ∃ P153 : zF → Prop, p_2326 s0 P153 ∧ ∀ g156 : zF, zFr [(396, 402, 1000), (386, 387, 3), (386, 387, 4), (386, 387, 5), (386, 387, 6), (386, 387, 7), (386, 387, 8), (386, 387, 9)] s0 g156 → P153 g156 → Q g156))) ∧ (x1 = 1 → ∀ y161 : Int, y161 = s0 (386) 7 → ∀ x162 : Int, (x162 = -1 ∧ y161 < 495739560811 ∨ x162 = 0 ∧ y161 = 495739560811 ∨ x162 = 1 ∧ 495739560811 < y161) → (¬ x162 = 0 → ∀ x165 : Int, (x165 = -1 ∧ y161 < 431415976301 ∨ x165 = 0 ∧ y161 = 431415976301 ∨ x165 = 1 ∧ 431415976301 < y161) → (¬ x165 = 0 → ∀ x168 : Int, (x168 = -1 ∧ y161 < 1885434739 ∨ x168 = 0 ∧ y161 = 1885434739 ∨ x168 = 1 ∧ 1885434739 < y161) → (¬ x168 = 0 → ∀ x171 : Int, (x171 = -1 ∧ y161 < 1684366704 ∨ x171 = 0 ∧ y161 = 1684366704 ∨ x171 = 1 ∧ 1684366704 < y161) → (¬ x171 = 0 → ∀ x174 : Int, x174 = s0 (386) 4 → 0 ≤ x174 → x174 ≤ 1600 → ∀ x178 : Int, x178 = s0 (386) 8 → 0 ≤ x178 → x178 ≤ 5 → (0 < x178 → Q s0) ∧ (x178 ≤ 0 → ∀ g187 : zF, g187 = zup s0 (386) 8 1 → ∀ g192 : zF, g192 = zup g187 (386) 9 x174 → Q g192)) ∧ (x171 = 0 → ∃ P195 : zF → Prop, p_2327 s0 1 P195 ∧ ∀ g198 : zF, zFr [(402, 415, 1000), (386, 387, 3), (386, 387, 34), (386, 387, 4), (386, 387, 41), (386, 387, 42), (386, 387, 44), (386, 387, 45), (386, 387, 5), (386, 387, 6), (386, 387, 7), (386, 387, 8), (386, 387, 9)] s0 g198 → P195 g198 → Q g198)) ∧ (x168 = 0 → ∃ P202 : zF → Prop, p_2327 s0 0 P202 ∧ ∀ g205 : zF, zFr [(402, 415, 1000), (386, 387, 3), (386, 387, 34), (386, 387, 4), (386, 387, 41), (386, 387, 42), (386, 387, 44), (386, 387, 45), (386, 387, 5), (386, 387, 6), (386, 387, 7), (386, 387, 8), (386, 387, 9)] s0 g205 → P202 g205 → Q g205)) ∧ (x165 = 0 → ∃ P209 : zF → Prop, p_2326 s0 P209 ∧ ∀ g212 : zF, zFr [(396, 402, 1000), (386, 387, 3), (386, 387, 4), (386, 387, 5), (386, 387, 6), (386, 387, 7), (386, 387, 8), (386, 387, 9)] s0 g212 → P209 g212 → Q g212)) ∧ (x162 = 0 → ∃ P216 : zF → Prop, p_2325 s0 P216 ∧ ∀ g219 : zF, zFr [(395, 396, 1000), (386, 387, 3), (386, 387, 4), (386, 387, 5), (386, 387, 6), (386, 387, 7), (386, 387, 8), (386, 387, 9)] s0 g219 → P216 g219 → Q g219))) ∧ (x1 = 1 → ∀ y224 : Int, y224 = s0 (386) 7 → ∀ x225 : Int, (x225 = -1 ∧ y224 < 6451065 ∨ x225 = 0 ∧ y224 = 6451065 ∨ x225 = 1 ∧ 6451065 < y224) → (¬ x225 = 0 → ∀ x228 : Int, (x228 = -1 ∧ y224 < 495739560811 ∨ x228 = 0 ∧ y224 = 495739560811 ∨ x228 = 1 ∧ 495739560811 < y224) → (¬ x228 = 0 → ∀ x231 : Int, (x231 = -1 ∧ y224 < 431415976301 ∨ x231 = 0 ∧ y224 = 431415976301 ∨ x231 = 1 ∧ 431415976301 < y224) → (¬ x231 = 0 → ∀ x234 : Int, (x234 = -1 ∧ y224 < 1885434739 ∨ x234 = 0 ∧ y224 = 1885434739 ∨ x234 = 1 ∧ 1885434739 < y224) → (¬ x234 = 0 → ∀ x237 : Int, (x237 = -1 ∧ y224 < 1684366704 ∨ x237 = 0 ∧ y224 = 1684366704 ∨ x237 = 1 ∧ 1684366704 < y224) → (¬ x237 = 0 → ∀ x240 : Int, x240 = s0 (386) 4 → 0 ≤ x240 → x240 ≤ 1600 → ∀ x244 : Int, x244 = s0 (386) 8 → 0 ≤ x244 → x244 ≤ 5 → (0 < x244 → Q s0) ∧ (x244 ≤ 0 → ∀ g253 : zF, g253 = zup s0 (386) 8 1 → ∀ g258 : zF, g258 = zup g253 (386) 9 x240 → Q g258)) ∧ (x237 = 0 → ∃ P261 : zF → Prop, p_2327 s0 1 P261 ∧ ∀ g264 : zF, zFr [(402, 415, 1000), (386, 387, 3), (386, 387, 34), (386, 387, 4), (386, 387, 41), (386, 387, 42), (386, 387, 44), (386, 387, 45), (386, 387, 5), (386, 387, 6), (386, 387, 7), (386, 387, 8), (386, 387, 9)] s0 g264 → P261 g264 → Q g264)) ∧ (x234 = 0 → ∃ P268 : zF → Prop, p_2327 s0 0 P268 ∧ ∀ g271 : zF, zFr [(402, 415, 1000), (386, 387, 3), (386, 387, 34), (386, 387, 4), (386, 387, 41), (386, 387, 42), (386, 387, 44), (386, 387, 45), (386, 387, 5), (386, 387, 6), (386, 387, 7), (386, 387, 8), (386, 387, 9)] s0 g271 → P268 g271 → Q g271)) ∧ (x231 = 0 → ∃ P275 : zF → Prop, p_2326 s0 P275 ∧ ∀ g278 : zF, zFr [(396, 402, 1000), (386, 387, 3), (386, 387, 4), (386, 387, 5), (386, 387, 6), (386, 387, 7), (386, 387, 8), (386, 387, 9)] s0 g278 → P275 g278 → Q g278)) ∧ (x228 = 0 → ∃ P282 : zF → Prop, p_2325 s0 P282 ∧ ∀ g285 : zF, zFr [(395, 396, 1000), (386, 387, 3), (386, 387, 4), (386, 387, 5), (386, 387, 6), (386, 387, 7), (386, 387, 8), (386, 387, 9)] s0 g285 → P282 g285 → Q g285)) ∧ (x225 = 0 → ∃ P289 : zF → Prop, p_2316 s0 P289 ∧ ∀ g292 : zF, zFr [(388, 395, 1000), (386, 387, 3), (386, 387, 4), (386, 387, 5), (386, 387, 6), (386, 387, 7), (386, 387, 8), (386, 387, 9)] s0 g292 → P289 g292 → Q g292))
set_option maxRecDepth 100000 in
theorem cj_2314 {s0 : zF} {Q1 Q2 : zF → Prop} (h1 : b_2314 s0 Q1) (h2 : p_2314 s0 Q2) : b_2314 s0 (fun g => Q1 g ∧ Q2 g) := by
  unfold b_2314 at h1 ⊢
  unfold p_2314 at h2
  intro x1 a1_0 a1_1 a1_2
  replace h1 := h1 x1 a1_0 a1_1 a1_2
  replace h2 := h2 x1 a1_0 a1_1 a1_2
  refine ⟨fun z => ?_, fun z => ?_⟩
  · replace h1 := h1.1 z
    replace h2 := h2.1 z
    refine ⟨fun z => ?_, fun z => ?_⟩
    · replace h1 := h1.1 z
      replace h2 := h2.1 z
      refine ⟨fun z => ?_, fun z => ?_⟩
      · replace h1 := h1.1 z
        replace h2 := h2.1 z
        refine ⟨fun z => ?_, fun z => ?_⟩
        · replace h1 := h1.1 z
          replace h2 := h2.1 z
          refine ⟨fun z => ?_, fun z => ?_⟩
          · replace h1 := h1.1 z
            replace h2 := h2.1 z
            intro x10 a6_0 a6_1 a6_2 x14 a6_3 a6_4 a6_5
            replace h1 := h1 x10 a6_0 a6_1 a6_2 x14 a6_3 a6_4 a6_5
            replace h2 := h2 x10 a6_0 a6_1 a6_2 x14 a6_3 a6_4 a6_5
            refine ⟨fun z => ?_, fun z => ?_⟩
            · replace h1 := h1.1 z
              replace h2 := h2.1 z
              exact ⟨h1, h2⟩
            · replace h1 := h1.2 z
              replace h2 := h2.2 z
              intro g23 a7_0 g28 a7_1
              replace h1 := h1 g23 a7_0 g28 a7_1
              replace h2 := h2 g23 a7_0 g28 a7_1
              exact ⟨h1, h2⟩
          · replace h1 := h1.2 z
            replace h2 := h2.2 z
            intro y32 a6_0 x33 a6_1
            replace h1 := h1 y32 a6_0 x33 a6_1
            replace h2 := h2 y32 a6_0 x33 a6_1
            refine ⟨fun z => ?_, fun z => ?_⟩
            · replace h1 := h1.1 z
              replace h2 := h2.1 z
              intro x36 a7_0 a7_1 a7_2 x40 a7_3 a7_4 a7_5
              replace h1 := h1 x36 a7_0 a7_1 a7_2 x40 a7_3 a7_4 a7_5
              replace h2 := h2 x36 a7_0 a7_1 a7_2 x40 a7_3 a7_4 a7_5
              refine ⟨fun z => ?_, fun z => ?_⟩
              · replace h1 := h1.1 z
                replace h2 := h2.1 z
                exact ⟨h1, h2⟩
              · replace h1 := h1.2 z
                replace h2 := h2.2 z
                intro g49 a8_0 g54 a8_1
                replace h1 := h1 g49 a8_0 g54 a8_1
                replace h2 := h2 g49 a8_0 g54 a8_1
                exact ⟨h1, h2⟩
            · replace h1 := h1.2 z
              replace h2 := h2.2 z
              obtain ⟨P1, c1, h1⟩ := h1
              obtain ⟨P2, c2, h2⟩ := h2
              refine ⟨fun g => P1 g ∧ P2 g, cj_2327 c1 c2, ?_⟩
              intro g60 a7_0 a7_1
              replace h1 := h1 g60 a7_0 a7_1.1
              replace h2 := h2 g60 a7_0 a7_1.2
              exact ⟨h1, h2⟩
        · replace h1 := h1.2 z
          replace h2 := h2.2 z
          intro y65 a5_0 x66 a5_1
          replace h1 := h1 y65 a5_0 x66 a5_1
          replace h2 := h2 y65 a5_0 x66 a5_1
          refine ⟨fun z => ?_, fun z => ?_⟩
          · replace h1 := h1.1 z
            replace h2 := h2.1 z
            intro x69 a6_0
            replace h1 := h1 x69 a6_0
            replace h2 := h2 x69 a6_0
            refine ⟨fun z => ?_, fun z => ?_⟩
            · replace h1 := h1.1 z
              replace h2 := h2.1 z
              intro x72 a7_0 a7_1 a7_2 x76 a7_3 a7_4 a7_5
              replace h1 := h1 x72 a7_0 a7_1 a7_2 x76 a7_3 a7_4 a7_5
              replace h2 := h2 x72 a7_0 a7_1 a7_2 x76 a7_3 a7_4 a7_5
              refine ⟨fun z => ?_, fun z => ?_⟩
              · replace h1 := h1.1 z
                replace h2 := h2.1 z
                exact ⟨h1, h2⟩
              · replace h1 := h1.2 z
                replace h2 := h2.2 z
                intro g85 a8_0 g90 a8_1
                replace h1 := h1 g85 a8_0 g90 a8_1
                replace h2 := h2 g85 a8_0 g90 a8_1
                exact ⟨h1, h2⟩
            · replace h1 := h1.2 z
              replace h2 := h2.2 z
              obtain ⟨P1, c1, h1⟩ := h1
              obtain ⟨P2, c2, h2⟩ := h2
              refine ⟨fun g => P1 g ∧ P2 g, cj_2327 c1 c2, ?_⟩
              intro g96 a7_0 a7_1
              replace h1 := h1 g96 a7_0 a7_1.1
              replace h2 := h2 g96 a7_0 a7_1.2
              exact ⟨h1, h2⟩
          · replace h1 := h1.2 z
            replace h2 := h2.2 z
            obtain ⟨P1, c1, h1⟩ := h1
            obtain ⟨P2, c2, h2⟩ := h2
            refine ⟨fun g => P1 g ∧ P2 g, cj_2327 c1 c2, ?_⟩
            intro g103 a6_0 a6_1
            replace h1 := h1 g103 a6_0 a6_1.1
            replace h2 := h2 g103 a6_0 a6_1.2
            exact ⟨h1, h2⟩
      · replace h1 := h1.2 z
        replace h2 := h2.2 z
        intro y108 a4_0 x109 a4_1
        replace h1 := h1 y108 a4_0 x109 a4_1
        replace h2 := h2 y108 a4_0 x109 a4_1
        refine ⟨fun z => ?_, fun z => ?_⟩
        · replace h1 := h1.1 z
          replace h2 := h2.1 z
          intro x112 a5_0
          replace h1 := h1 x112 a5_0
          replace h2 := h2 x112 a5_0
          refine ⟨fun z => ?_, fun z => ?_⟩
          · replace h1 := h1.1 z
            replace h2 := h2.1 z
            intro x115 a6_0
            replace h1 := h1 x115 a6_0
            replace h2 := h2 x115 a6_0
            refine ⟨fun z => ?_, fun z => ?_⟩
            · replace h1 := h1.1 z
              replace h2 := h2.1 z
              intro x118 a7_0 a7_1 a7_2 x122 a7_3 a7_4 a7_5
              replace h1 := h1 x118 a7_0 a7_1 a7_2 x122 a7_3 a7_4 a7_5
              replace h2 := h2 x118 a7_0 a7_1 a7_2 x122 a7_3 a7_4 a7_5
              refine ⟨fun z => ?_, fun z => ?_⟩
              · replace h1 := h1.1 z
                replace h2 := h2.1 z
                exact ⟨h1, h2⟩
              · replace h1 := h1.2 z
                replace h2 := h2.2 z
                intro g131 a8_0 g136 a8_1
                replace h1 := h1 g131 a8_0 g136 a8_1
                replace h2 := h2 g131 a8_0 g136 a8_1
                exact ⟨h1, h2⟩
            · replace h1 := h1.2 z
              replace h2 := h2.2 z
              obtain ⟨P1, c1, h1⟩ := h1
              obtain ⟨P2, c2, h2⟩ := h2
              refine ⟨fun g => P1 g ∧ P2 g, cj_2327 c1 c2, ?_⟩
              intro g142 a7_0 a7_1
              replace h1 := h1 g142 a7_0 a7_1.1
              replace h2 := h2 g142 a7_0 a7_1.2
              exact ⟨h1, h2⟩
          · replace h1 := h1.2 z
            replace h2 := h2.2 z
            obtain ⟨P1, c1, h1⟩ := h1
            obtain ⟨P2, c2, h2⟩ := h2
            refine ⟨fun g => P1 g ∧ P2 g, cj_2327 c1 c2, ?_⟩
            intro g149 a6_0 a6_1
            replace h1 := h1 g149 a6_0 a6_1.1
            replace h2 := h2 g149 a6_0 a6_1.2
            exact ⟨h1, h2⟩
        · replace h1 := h1.2 z
          replace h2 := h2.2 z
          obtain ⟨P1, c1, h1⟩ := h1
          obtain ⟨P2, c2, h2⟩ := h2
          refine ⟨fun g => P1 g ∧ P2 g, cj_2326 c1 c2, ?_⟩
          intro g156 a5_0 a5_1
          replace h1 := h1 g156 a5_0 a5_1.1
          replace h2 := h2 g156 a5_0 a5_1.2
          exact ⟨h1, h2⟩
    · replace h1 := h1.2 z
      replace h2 := h2.2 z
      intro y161 a3_0 x162 a3_1
      replace h1 := h1 y161 a3_0 x162 a3_1
      replace h2 := h2 y161 a3_0 x162 a3_1
      refine ⟨fun z => ?_, fun z => ?_⟩
      · replace h1 := h1.1 z
        replace h2 := h2.1 z
        intro x165 a4_0
        replace h1 := h1 x165 a4_0
        replace h2 := h2 x165 a4_0
        refine ⟨fun z => ?_, fun z => ?_⟩
        · replace h1 := h1.1 z
          replace h2 := h2.1 z
          intro x168 a5_0
          replace h1 := h1 x168 a5_0
          replace h2 := h2 x168 a5_0
          refine ⟨fun z => ?_, fun z => ?_⟩
          · replace h1 := h1.1 z
            replace h2 := h2.1 z
            intro x171 a6_0
            replace h1 := h1 x171 a6_0
            replace h2 := h2 x171 a6_0
            refine ⟨fun z => ?_, fun z => ?_⟩
            · replace h1 := h1.1 z
              replace h2 := h2.1 z
              intro x174 a7_0 a7_1 a7_2 x178 a7_3 a7_4 a7_5
              replace h1 := h1 x174 a7_0 a7_1 a7_2 x178 a7_3 a7_4 a7_5
              replace h2 := h2 x174 a7_0 a7_1 a7_2 x178 a7_3 a7_4 a7_5
              refine ⟨fun z => ?_, fun z => ?_⟩
              · replace h1 := h1.1 z
                replace h2 := h2.1 z
                exact ⟨h1, h2⟩
              · replace h1 := h1.2 z
                replace h2 := h2.2 z
                intro g187 a8_0 g192 a8_1
                replace h1 := h1 g187 a8_0 g192 a8_1
                replace h2 := h2 g187 a8_0 g192 a8_1
                exact ⟨h1, h2⟩
            · replace h1 := h1.2 z
              replace h2 := h2.2 z
              obtain ⟨P1, c1, h1⟩ := h1
              obtain ⟨P2, c2, h2⟩ := h2
              refine ⟨fun g => P1 g ∧ P2 g, cj_2327 c1 c2, ?_⟩
              intro g198 a7_0 a7_1
              replace h1 := h1 g198 a7_0 a7_1.1
              replace h2 := h2 g198 a7_0 a7_1.2
              exact ⟨h1, h2⟩
          · replace h1 := h1.2 z
            replace h2 := h2.2 z
            obtain ⟨P1, c1, h1⟩ := h1
            obtain ⟨P2, c2, h2⟩ := h2
            refine ⟨fun g => P1 g ∧ P2 g, cj_2327 c1 c2, ?_⟩
            intro g205 a6_0 a6_1
            replace h1 := h1 g205 a6_0 a6_1.1
            replace h2 := h2 g205 a6_0 a6_1.2
            exact ⟨h1, h2⟩
        · replace h1 := h1.2 z
          replace h2 := h2.2 z
          obtain ⟨P1, c1, h1⟩ := h1
          obtain ⟨P2, c2, h2⟩ := h2
          refine ⟨fun g => P1 g ∧ P2 g, cj_2326 c1 c2, ?_⟩
          intro g212 a5_0 a5_1
          replace h1 := h1 g212 a5_0 a5_1.1
          replace h2 := h2 g212 a5_0 a5_1.2
          exact ⟨h1, h2⟩
      · replace h1 := h1.2 z
        replace h2 := h2.2 z
        obtain ⟨P1, c1, h1⟩ := h1
        obtain ⟨P2, c2, h2⟩ := h2
        refine ⟨fun g => P1 g ∧ P2 g, cj_2325 c1 c2, ?_⟩
        intro g219 a4_0 a4_1
        replace h1 := h1 g219 a4_0 a4_1.1
        replace h2 := h2 g219 a4_0 a4_1.2
        exact ⟨h1, h2⟩
  · replace h1 := h1.2 z
    replace h2 := h2.2 z
    intro y224 a2_0 x225 a2_1
    replace h1 := h1 y224 a2_0 x225 a2_1
    replace h2 := h2 y224 a2_0 x225 a2_1
    refine ⟨fun z => ?_, fun z => ?_⟩
    · replace h1 := h1.1 z
      replace h2 := h2.1 z
      intro x228 a3_0
      replace h1 := h1 x228 a3_0
      replace h2 := h2 x228 a3_0
      refine ⟨fun z => ?_, fun z => ?_⟩
      · replace h1 := h1.1 z
        replace h2 := h2.1 z
        intro x231 a4_0
        replace h1 := h1 x231 a4_0
        replace h2 := h2 x231 a4_0
        refine ⟨fun z => ?_, fun z => ?_⟩
        · replace h1 := h1.1 z
          replace h2 := h2.1 z
          intro x234 a5_0
          replace h1 := h1 x234 a5_0
          replace h2 := h2 x234 a5_0
          refine ⟨fun z => ?_, fun z => ?_⟩
          · replace h1 := h1.1 z
            replace h2 := h2.1 z
            intro x237 a6_0
            replace h1 := h1 x237 a6_0
            replace h2 := h2 x237 a6_0
            refine ⟨fun z => ?_, fun z => ?_⟩
            · replace h1 := h1.1 z
              replace h2 := h2.1 z
              intro x240 a7_0 a7_1 a7_2 x244 a7_3 a7_4 a7_5
              replace h1 := h1 x240 a7_0 a7_1 a7_2 x244 a7_3 a7_4 a7_5
              replace h2 := h2 x240 a7_0 a7_1 a7_2 x244 a7_3 a7_4 a7_5
              refine ⟨fun z => ?_, fun z => ?_⟩
              · replace h1 := h1.1 z
                replace h2 := h2.1 z
                exact ⟨h1, h2⟩
              · replace h1 := h1.2 z
                replace h2 := h2.2 z
                intro g253 a8_0 g258 a8_1
                replace h1 := h1 g253 a8_0 g258 a8_1
                replace h2 := h2 g253 a8_0 g258 a8_1
                exact ⟨h1, h2⟩
            · replace h1 := h1.2 z
              replace h2 := h2.2 z
              obtain ⟨P1, c1, h1⟩ := h1
              obtain ⟨P2, c2, h2⟩ := h2
              refine ⟨fun g => P1 g ∧ P2 g, cj_2327 c1 c2, ?_⟩
              intro g264 a7_0 a7_1
              replace h1 := h1 g264 a7_0 a7_1.1
              replace h2 := h2 g264 a7_0 a7_1.2
              exact ⟨h1, h2⟩
          · replace h1 := h1.2 z
            replace h2 := h2.2 z
            obtain ⟨P1, c1, h1⟩ := h1
            obtain ⟨P2, c2, h2⟩ := h2
            refine ⟨fun g => P1 g ∧ P2 g, cj_2327 c1 c2, ?_⟩
            intro g271 a6_0 a6_1
            replace h1 := h1 g271 a6_0 a6_1.1
            replace h2 := h2 g271 a6_0 a6_1.2
            exact ⟨h1, h2⟩
        · replace h1 := h1.2 z
          replace h2 := h2.2 z
          obtain ⟨P1, c1, h1⟩ := h1
          obtain ⟨P2, c2, h2⟩ := h2
          refine ⟨fun g => P1 g ∧ P2 g, cj_2326 c1 c2, ?_⟩
          intro g278 a5_0 a5_1
          replace h1 := h1 g278 a5_0 a5_1.1
          replace h2 := h2 g278 a5_0 a5_1.2
          exact ⟨h1, h2⟩
      · replace h1 := h1.2 z
        replace h2 := h2.2 z
        obtain ⟨P1, c1, h1⟩ := h1
        obtain ⟨P2, c2, h2⟩ := h2
        refine ⟨fun g => P1 g ∧ P2 g, cj_2325 c1 c2, ?_⟩
        intro g285 a4_0 a4_1
        replace h1 := h1 g285 a4_0 a4_1.1
        replace h2 := h2 g285 a4_0 a4_1.2
        exact ⟨h1, h2⟩
    · replace h1 := h1.2 z
      replace h2 := h2.2 z
      obtain ⟨P1, c1, h1⟩ := h1
      obtain ⟨P2, c2, h2⟩ := h2
      refine ⟨fun g => P1 g ∧ P2 g, cj_2316 c1 c2, ?_⟩
      intro g292 a3_0 a3_1
      replace h1 := h1 g292 a3_0 a3_1.1
      replace h2 := h2 g292 a3_0 a3_1.2
      exact ⟨h1, h2⟩
set_option maxRecDepth 100000 in
def p_2339 (s0 : zF) (a0 : Int) (Q : zF → Prop) : Prop :=
  ∃ (I13 : zF → Int → Int → Prop),
    (∀ x157 : Int, x157 = s0 (386) 8 → 0 ≤ x157 → x157 ≤ 5 → (0 < x157 → Q s0) ∧ (x157 ≤ 0 → ∀ x162 : Int, x162 = s0 (386) 5 → 0 ≤ x162 → x162 ≤ 1600 → I13 s0 a0 x162)) ∧
    (∀ (g : zF) (v13_1 : Int) (v13_2 : Int), zFr [(386, 387, 3), (386, 387, 4), (386, 387, 5), (386, 387, 6), (386, 387, 7), (386, 387, 8), (386, 387, 9)] s0 g → 0 ≤ v13_2 → v13_2 ≤ 1600 → I13 g v13_1 v13_2 → ∀ x1 : Int, x1 = g (386) 2 → 0 ≤ x1 → x1 ≤ 1600 → (v13_2 < x1 → ∀ x9 : Int, x9 = g (387) v13_2.toNat → 0 ≤ x9 → x9 ≤ 255 → (¬ x9 = 32 → (¬ x9 = 10 → ∀ x15 : Int, x15 = g (386) 3 → 0 ≤ x15 → x15 ≤ 3 → (¬ x15 = 3 → ∃ P22 : zF → Prop, p_2340 g 59 P22 ∧ ∀ g25 : zF, zFr [(386, 387, 3), (386, 387, 4), (386, 387, 5), (386, 387, 6), (386, 387, 7), (386, 387, 8), (386, 387, 9)] g g25 → P22 g25 → Q g25) ∧ (x15 = 3 → ∀ x27 : Int, x27 = g (386) 6 → (¬ x27 = 59 → ∃ P34 : zF → Prop, p_2340 g 59 P34 ∧ ∀ g37 : zF, zFr [(386, 387, 3), (386, 387, 4), (386, 387, 5), (386, 387, 6), (386, 387, 7), (386, 387, 8), (386, 387, 9)] g g37 → P34 g37 → Q g37) ∧ (x27 = 59 → (¬ v13_1 = 90 → ∃ P42 : zF → Prop, p_2340 g 59 P42 ∧ ∀ g45 : zF, zFr [(386, 387, 3), (386, 387, 4), (386, 387, 5), (386, 387, 6), (386, 387, 7), (386, 387, 8), (386, 387, 9)] g g45 → P42 g45 → Q g45) ∧ (v13_1 = 90 → (v13_2 < x1 → ∀ x48 : Int, x48 = g (386) 8 → 0 ≤ x48 → x48 ≤ 5 → (0 < x48 → ∃ P55 : zF → Prop, p_2340 g 59 P55 ∧ ∀ g58 : zF, zFr [(386, 387, 3), (386, 387, 4), (386, 387, 5), (386, 387, 6), (386, 387, 7), (386, 387, 8), (386, 387, 9)] g g58 → P55 g58 → Q g58) ∧ (x48 ≤ 0 → ∀ g64 : zF, g64 = zup g (386) 8 5 → ∀ g69 : zF, g69 = zup g64 (386) 9 v13_2 → ∃ P72 : zF → Prop, p_2340 g69 59 P72 ∧ ∀ g75 : zF, zFr [(386, 387, 3), (386, 387, 4), (386, 387, 5), (386, 387, 6), (386, 387, 7), (386, 387, 8), (386, 387, 9)] g69 g75 → P72 g75 → Q g75)) ∧ (x1 ≤ v13_2 → ∃ P79 : zF → Prop, p_2340 g 59 P79 ∧ ∀ g82 : zF, zFr [(386, 387, 3), (386, 387, 4), (386, 387, 5), (386, 387, 6), (386, 387, 7), (386, 387, 8), (386, 387, 9)] g g82 → P79 g82 → Q g82))))) ∧ (x9 = 10 → ∀ x84 : Int, x84 = v13_2 + 1 → I13 g v13_1 x84)) ∧ (x9 = 32 → ∀ x86 : Int, x86 = v13_2 + 1 → I13 g v13_1 x86)) ∧ (x1 ≤ v13_2 → ∀ x88 : Int, x88 = g (386) 3 → 0 ≤ x88 → x88 ≤ 3 → (¬ x88 = 3 → ∃ P95 : zF → Prop, p_2340 g 59 P95 ∧ ∀ g98 : zF, zFr [(386, 387, 3), (386, 387, 4), (386, 387, 5), (386, 387, 6), (386, 387, 7), (386, 387, 8), (386, 387, 9)] g g98 → P95 g98 → Q g98) ∧ (x88 = 3 → ∀ x100 : Int, x100 = g (386) 6 → (¬ x100 = 59 → ∃ P107 : zF → Prop, p_2340 g 59 P107 ∧ ∀ g110 : zF, zFr [(386, 387, 3), (386, 387, 4), (386, 387, 5), (386, 387, 6), (386, 387, 7), (386, 387, 8), (386, 387, 9)] g g110 → P107 g110 → Q g110) ∧ (x100 = 59 → (¬ v13_1 = 90 → ∃ P115 : zF → Prop, p_2340 g 59 P115 ∧ ∀ g118 : zF, zFr [(386, 387, 3), (386, 387, 4), (386, 387, 5), (386, 387, 6), (386, 387, 7), (386, 387, 8), (386, 387, 9)] g g118 → P115 g118 → Q g118) ∧ (v13_1 = 90 → (v13_2 < x1 → ∀ x121 : Int, x121 = g (386) 8 → 0 ≤ x121 → x121 ≤ 5 → (0 < x121 → ∃ P128 : zF → Prop, p_2340 g 59 P128 ∧ ∀ g131 : zF, zFr [(386, 387, 3), (386, 387, 4), (386, 387, 5), (386, 387, 6), (386, 387, 7), (386, 387, 8), (386, 387, 9)] g g131 → P128 g131 → Q g131) ∧ (x121 ≤ 0 → ∀ g137 : zF, g137 = zup g (386) 8 5 → ∀ g142 : zF, g142 = zup g137 (386) 9 v13_2 → ∃ P145 : zF → Prop, p_2340 g142 59 P145 ∧ ∀ g148 : zF, zFr [(386, 387, 3), (386, 387, 4), (386, 387, 5), (386, 387, 6), (386, 387, 7), (386, 387, 8), (386, 387, 9)] g142 g148 → P145 g148 → Q g148)) ∧ (x1 ≤ v13_2 → ∃ P152 : zF → Prop, p_2340 g 59 P152 ∧ ∀ g155 : zF, zFr [(386, 387, 3), (386, 387, 4), (386, 387, 5), (386, 387, 6), (386, 387, 7), (386, 387, 8), (386, 387, 9)] g g155 → P152 g155 → Q g155))))))
set_option maxRecDepth 100000 in
theorem cj_2339 {s0 : zF} {a0 : Int} {Q1 Q2 : zF → Prop} (h1 : b_2339 s0 a0 Q1) (h2 : p_2339 s0 a0 Q2) : b_2339 s0 a0 (fun g => Q1 g ∧ Q2 g) := by
  obtain ⟨I13, h1E, h1_0⟩ := h1
  obtain ⟨J13, h2E, h2_0⟩ := h2
  refine ⟨fun n g y0 y1 => I13 n g y0 y1 ∧ J13 g y0 y1, ?_, ?_⟩
  · have h1 := h1E
    have h2 := h2E
    clear h1E h2E h1_0 h2_0
    intro x157 a2_0 a2_1 a2_2
    replace h1 := h1 x157 a2_0 a2_1 a2_2
    replace h2 := h2 x157 a2_0 a2_1 a2_2
    refine ⟨fun z => ?_, fun z => ?_⟩
    · replace h1 := h1.1 z
      replace h2 := h2.1 z
      exact ⟨h1, h2⟩
    · replace h1 := h1.2 z
      replace h2 := h2.2 z
      intro x162 a3_0 a3_1 a3_2
      replace h1 := h1 x162 a3_0 a3_1 a3_2
      replace h2 := h2 x162 a3_0 a3_1 a3_2
      obtain ⟨m, hi⟩ := h1
      exact ⟨m, hi, h2⟩
  · intro n g v13_1 v13_2 e0 e1 e2 hI
    have h1 := h1_0 n g v13_1 v13_2 e0 e1 e2 hI.1
    have h2 := h2_0 g v13_1 v13_2 e0 e1 e2 hI.2
    clear h1E h2E hI h1_0 h2_0
    intro x1 a2_0 a2_1 a2_2
    replace h1 := h1 x1 a2_0 a2_1 a2_2
    replace h2 := h2 x1 a2_0 a2_1 a2_2
    refine ⟨fun z => ?_, fun z => ?_⟩
    · replace h1 := h1.1 z
      replace h2 := h2.1 z
      intro x9 a3_0 a3_1 a3_2
      replace h1 := h1 x9 a3_0 a3_1 a3_2
      replace h2 := h2 x9 a3_0 a3_1 a3_2
      refine ⟨fun z => ?_, fun z => ?_⟩
      · replace h1 := h1.1 z
        replace h2 := h2.1 z
        refine ⟨fun z => ?_, fun z => ?_⟩
        · replace h1 := h1.1 z
          replace h2 := h2.1 z
          intro x15 a5_0 a5_1 a5_2
          replace h1 := h1 x15 a5_0 a5_1 a5_2
          replace h2 := h2 x15 a5_0 a5_1 a5_2
          refine ⟨fun z => ?_, fun z => ?_⟩
          · replace h1 := h1.1 z
            replace h2 := h2.1 z
            obtain ⟨P1, c1, h1⟩ := h1
            obtain ⟨P2, c2, h2⟩ := h2
            refine ⟨fun g => P1 g ∧ P2 g, cj_2340 c1 c2, ?_⟩
            intro g25 a6_0 a6_1
            replace h1 := h1 g25 a6_0 a6_1.1
            replace h2 := h2 g25 a6_0 a6_1.2
            exact ⟨h1, h2⟩
          · replace h1 := h1.2 z
            replace h2 := h2.2 z
            intro x27 a6_0
            replace h1 := h1 x27 a6_0
            replace h2 := h2 x27 a6_0
            refine ⟨fun z => ?_, fun z => ?_⟩
            · replace h1 := h1.1 z
              replace h2 := h2.1 z
              obtain ⟨P1, c1, h1⟩ := h1
              obtain ⟨P2, c2, h2⟩ := h2
              refine ⟨fun g => P1 g ∧ P2 g, cj_2340 c1 c2, ?_⟩
              intro g37 a7_0 a7_1
              replace h1 := h1 g37 a7_0 a7_1.1
              replace h2 := h2 g37 a7_0 a7_1.2
              exact ⟨h1, h2⟩
            · replace h1 := h1.2 z
              replace h2 := h2.2 z
              refine ⟨fun z => ?_, fun z => ?_⟩
              · replace h1 := h1.1 z
                replace h2 := h2.1 z
                obtain ⟨P1, c1, h1⟩ := h1
                obtain ⟨P2, c2, h2⟩ := h2
                refine ⟨fun g => P1 g ∧ P2 g, cj_2340 c1 c2, ?_⟩
                intro g45 a8_0 a8_1
                replace h1 := h1 g45 a8_0 a8_1.1
                replace h2 := h2 g45 a8_0 a8_1.2
                exact ⟨h1, h2⟩
              · replace h1 := h1.2 z
                replace h2 := h2.2 z
                refine ⟨fun z => ?_, fun z => ?_⟩
                · replace h1 := h1.1 z
                  replace h2 := h2.1 z
                  intro x48 a9_0 a9_1 a9_2
                  replace h1 := h1 x48 a9_0 a9_1 a9_2
                  replace h2 := h2 x48 a9_0 a9_1 a9_2
                  refine ⟨fun z => ?_, fun z => ?_⟩
                  · replace h1 := h1.1 z
                    replace h2 := h2.1 z
                    obtain ⟨P1, c1, h1⟩ := h1
                    obtain ⟨P2, c2, h2⟩ := h2
                    refine ⟨fun g => P1 g ∧ P2 g, cj_2340 c1 c2, ?_⟩
                    intro g58 a10_0 a10_1
                    replace h1 := h1 g58 a10_0 a10_1.1
                    replace h2 := h2 g58 a10_0 a10_1.2
                    exact ⟨h1, h2⟩
                  · replace h1 := h1.2 z
                    replace h2 := h2.2 z
                    intro g64 a10_0 g69 a10_1
                    replace h1 := h1 g64 a10_0 g69 a10_1
                    replace h2 := h2 g64 a10_0 g69 a10_1
                    obtain ⟨P1, c1, h1⟩ := h1
                    obtain ⟨P2, c2, h2⟩ := h2
                    refine ⟨fun g => P1 g ∧ P2 g, cj_2340 c1 c2, ?_⟩
                    intro g75 a10_0 a10_1
                    replace h1 := h1 g75 a10_0 a10_1.1
                    replace h2 := h2 g75 a10_0 a10_1.2
                    exact ⟨h1, h2⟩
                · replace h1 := h1.2 z
                  replace h2 := h2.2 z
                  obtain ⟨P1, c1, h1⟩ := h1
                  obtain ⟨P2, c2, h2⟩ := h2
                  refine ⟨fun g => P1 g ∧ P2 g, cj_2340 c1 c2, ?_⟩
                  intro g82 a9_0 a9_1
                  replace h1 := h1 g82 a9_0 a9_1.1
                  replace h2 := h2 g82 a9_0 a9_1.2
                  exact ⟨h1, h2⟩
        · replace h1 := h1.2 z
          replace h2 := h2.2 z
          intro x84 a5_0
          replace h1 := h1 x84 a5_0
          replace h2 := h2 x84 a5_0
          obtain ⟨m, hm, hi⟩ := h1
          exact ⟨m, hm, hi, h2⟩
      · replace h1 := h1.2 z
        replace h2 := h2.2 z
        intro x86 a4_0
        replace h1 := h1 x86 a4_0
        replace h2 := h2 x86 a4_0
        obtain ⟨m, hm, hi⟩ := h1
        exact ⟨m, hm, hi, h2⟩
    · replace h1 := h1.2 z
      replace h2 := h2.2 z
      intro x88 a3_0 a3_1 a3_2
      replace h1 := h1 x88 a3_0 a3_1 a3_2
      replace h2 := h2 x88 a3_0 a3_1 a3_2
      refine ⟨fun z => ?_, fun z => ?_⟩
      · replace h1 := h1.1 z
        replace h2 := h2.1 z
        obtain ⟨P1, c1, h1⟩ := h1
        obtain ⟨P2, c2, h2⟩ := h2
        refine ⟨fun g => P1 g ∧ P2 g, cj_2340 c1 c2, ?_⟩
        intro g98 a4_0 a4_1
        replace h1 := h1 g98 a4_0 a4_1.1
        replace h2 := h2 g98 a4_0 a4_1.2
        exact ⟨h1, h2⟩
      · replace h1 := h1.2 z
        replace h2 := h2.2 z
        intro x100 a4_0
        replace h1 := h1 x100 a4_0
        replace h2 := h2 x100 a4_0
        refine ⟨fun z => ?_, fun z => ?_⟩
        · replace h1 := h1.1 z
          replace h2 := h2.1 z
          obtain ⟨P1, c1, h1⟩ := h1
          obtain ⟨P2, c2, h2⟩ := h2
          refine ⟨fun g => P1 g ∧ P2 g, cj_2340 c1 c2, ?_⟩
          intro g110 a5_0 a5_1
          replace h1 := h1 g110 a5_0 a5_1.1
          replace h2 := h2 g110 a5_0 a5_1.2
          exact ⟨h1, h2⟩
        · replace h1 := h1.2 z
          replace h2 := h2.2 z
          refine ⟨fun z => ?_, fun z => ?_⟩
          · replace h1 := h1.1 z
            replace h2 := h2.1 z
            obtain ⟨P1, c1, h1⟩ := h1
            obtain ⟨P2, c2, h2⟩ := h2
            refine ⟨fun g => P1 g ∧ P2 g, cj_2340 c1 c2, ?_⟩
            intro g118 a6_0 a6_1
            replace h1 := h1 g118 a6_0 a6_1.1
            replace h2 := h2 g118 a6_0 a6_1.2
            exact ⟨h1, h2⟩
          · replace h1 := h1.2 z
            replace h2 := h2.2 z
            refine ⟨fun z => ?_, fun z => ?_⟩
            · replace h1 := h1.1 z
              replace h2 := h2.1 z
              intro x121 a7_0 a7_1 a7_2
              replace h1 := h1 x121 a7_0 a7_1 a7_2
              replace h2 := h2 x121 a7_0 a7_1 a7_2
              refine ⟨fun z => ?_, fun z => ?_⟩
              · replace h1 := h1.1 z
                replace h2 := h2.1 z
                obtain ⟨P1, c1, h1⟩ := h1
                obtain ⟨P2, c2, h2⟩ := h2
                refine ⟨fun g => P1 g ∧ P2 g, cj_2340 c1 c2, ?_⟩
                intro g131 a8_0 a8_1
                replace h1 := h1 g131 a8_0 a8_1.1
                replace h2 := h2 g131 a8_0 a8_1.2
                exact ⟨h1, h2⟩
              · replace h1 := h1.2 z
                replace h2 := h2.2 z
                intro g137 a8_0 g142 a8_1
                replace h1 := h1 g137 a8_0 g142 a8_1
                replace h2 := h2 g137 a8_0 g142 a8_1
                obtain ⟨P1, c1, h1⟩ := h1
                obtain ⟨P2, c2, h2⟩ := h2
                refine ⟨fun g => P1 g ∧ P2 g, cj_2340 c1 c2, ?_⟩
                intro g148 a8_0 a8_1
                replace h1 := h1 g148 a8_0 a8_1.1
                replace h2 := h2 g148 a8_0 a8_1.2
                exact ⟨h1, h2⟩
            · replace h1 := h1.2 z
              replace h2 := h2.2 z
              obtain ⟨P1, c1, h1⟩ := h1
              obtain ⟨P2, c2, h2⟩ := h2
              refine ⟨fun g => P1 g ∧ P2 g, cj_2340 c1 c2, ?_⟩
              intro g155 a7_0 a7_1
              replace h1 := h1 g155 a7_0 a7_1.1
              replace h2 := h2 g155 a7_0 a7_1.2
              exact ⟨h1, h2⟩
