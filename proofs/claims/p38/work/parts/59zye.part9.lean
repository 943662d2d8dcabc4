/-! partial conditions of the image, the reference (wip/safe/vcp.py) -/
set_option maxRecDepth 100000 in
def p_2428 (s0 : zF) (Q : Int → zF → Prop) : Prop :=
  ∀ x1 : Int, x1 = s0 (386) 12 → 0 ≤ x1 → x1 ≤ 1 → ∀ x8 : Int, x8 = s0 (388) x1.toNat → 0 ≤ x8 → x8 ≤ 12 → (0 < x8 → ∀ x13 : Int, x13 = x8 - 1 → Q x13 s0) ∧ (x8 ≤ 0 → Q 0 s0)
set_option maxRecDepth 100000 in
theorem cj_2428 {s0 : zF} {Q1 Q2 : Int → zF → Prop} (h1 : b_2428 s0 Q1) (h2 : p_2428 s0 Q2) : b_2428 s0 (fun v g => Q1 v g ∧ Q2 v g) := by
  unfold b_2428 at h1 ⊢
  unfold p_2428 at h2
  intro x1 a1_0 a1_1 a1_2 x8 a1_3 a1_4 a1_5
  replace h1 := h1 x1 a1_0 a1_1 a1_2 x8 a1_3 a1_4 a1_5
  replace h2 := h2 x1 a1_0 a1_1 a1_2 x8 a1_3 a1_4 a1_5
  refine ⟨fun z => ?_, fun z => ?_⟩
  · replace h1 := h1.1 z
    replace h2 := h2.1 z
    intro x13 a2_0
    replace h1 := h1 x13 a2_0
    replace h2 := h2 x13 a2_0
    exact ⟨h1, h2⟩
  · replace h1 := h1.2 z
    replace h2 := h2.2 z
    exact ⟨h1, h2⟩
set_option maxRecDepth 100000 in
def p_2429 (s0 : zF) (a0 : Int) (Q : Int → zF → Prop) : Prop :=
  ∃ (I129 : zF → Int → Int → Int → Int → Prop) (I140 : zF → Int → Int → Int → Int → Prop) (I159 : zF → Int → Int → Int → Prop) (I172 : zF → Int → Prop),
    (∀ x49 : Int, x49 = s0 (387) a0.toNat → 0 ≤ x49 → x49 ≤ 255 → ∀ x50 : Int, x50 = a0 + 2 → ∀ x55 : Int, x55 = s0 (387) x50.toNat → 0 ≤ x55 → x55 ≤ 255 → ∀ x56 : Int, x56 = x55 - 1 → ∀ x58 : Int, x58 = a0 + 4 → ∀ x63 : Int, x63 = s0 (387) x58.toNat → 0 ≤ x63 → x63 ≤ 255 → ∀ x64 : Int, x64 = x63 - 1 → ∀ x66 : Int, x66 = s0 (386) 12 → 0 ≤ x66 → x66 ≤ 1 → ∀ x73 : Int, x73 = s0 (388) x66.toNat → 0 ≤ x73 → x73 ≤ 12 → (x49 < x73 → ∀ x75 : Int, x75 = a0 + 1 → ∀ x80 : Int, x80 = s0 (387) x75.toNat → 0 ≤ x80 → x80 ≤ 255 → (1 < x80 → Q 0 s0) ∧ (x80 ≤ 1 → ∀ x85 : Int, x85 = s0 (396) x66.toNat → 0 ≤ x85 → x85 ≤ 6 → (x56 < x85 → (x64 < x85 → (¬ x56 = (-1) → ∀ x92 : Int, x92 = a0 + 3 → ∀ x97 : Int, x97 = s0 (387) x92.toNat → 0 ≤ x97 → x97 ≤ 255 → ∀ x98 : Int, x98 = 6 * x66 → ∀ x100 : Int, x100 = x98 + x56 → ∀ x105 : Int, x105 = s0 (399) x100.toNat → (x97 < 1 → Q 0 s0) ∧ (1 ≤ x97 → (x105 < x97 → Q 0 s0) ∧ (x97 ≤ x105 → I129 s0 a0 x49 x56 x64))) ∧ (x56 = (-1) → ∀ x108 : Int, x108 = a0 + 3 → ∀ x113 : Int, x113 = s0 (387) x108.toNat → 0 ≤ x113 → x113 ≤ 255 → (¬ x113 = 0 → Q 0 s0) ∧ (x113 = 0 → I129 s0 a0 x49 x56 x64))) ∧ (x85 ≤ x64 → Q 0 s0)) ∧ (x85 ≤ x56 → Q 0 s0))) ∧ (x73 ≤ x49 → Q 0 s0)) ∧
    (∀ (g : zF) (v129_1 : Int) (v129_2 : Int) (v129_3 : Int) (v129_4 : Int), zFr [] s0 g → 2 ≤ v129_1 → v129_1 ≤ 88 → 0 ≤ v129_2 → v129_2 ≤ 11 → (-1) ≤ v129_3 → v129_3 ≤ 5 → (-1) ≤ v129_4 → v129_4 ≤ 5 → I129 g v129_1 v129_2 v129_3 v129_4 → (¬ v129_3 = (-1) → I140 g v129_1 v129_2 v129_3 v129_4) ∧ (v129_3 = (-1) → (¬ v129_4 = (-1) → I140 g v129_1 v129_2 v129_3 v129_4) ∧ (v129_4 = (-1) → I159 g v129_1 v129_3 v129_4))) ∧
    (∀ (g : zF) (v140_1 : Int) (v140_2 : Int) (v140_3 : Int) (v140_4 : Int), zFr [] s0 g → 2 ≤ v140_1 → v140_1 ≤ 88 → 0 ≤ v140_2 → v140_2 ≤ 11 → (-1) ≤ v140_3 → v140_3 ≤ 5 → (-1) ≤ v140_4 → v140_4 ≤ 5 → I140 g v140_1 v140_2 v140_3 v140_4 → ∀ x3 : Int, x3 = v140_1 + 1 → ∀ x8 : Int, x8 = g (387) x3.toNat → 0 ≤ x8 → x8 ≤ 255 → (¬ x8 = 0 → ∀ x10 : Int, x10 = g (386) 12 → 0 ≤ x10 → x10 ≤ 1 → ∀ x14 : Int, x14 = 12 * x10 → ∀ x16 : Int, x16 = x14 + v140_2 → ∀ x21 : Int, x21 = g (394) x16.toNat → 0 ≤ x21 → x21 ≤ 3 → ∀ x23 : Int, x23 = zxand x21 2 → 0 ≤ x23 → x23 ≤ 2 → (¬ x23 = 0 → Q 0 g) ∧ (x23 = 0 → I159 g v140_1 v140_3 v140_4)) ∧ (x8 = 0 → Q 0 g)) ∧
    (∀ (g : zF) (v159_1 : Int) (v159_3 : Int) (v159_4 : Int), zFr [] s0 g → 2 ≤ v159_1 → v159_1 ≤ 88 → (-1) ≤ v159_3 → v159_3 ≤ 5 → (-1) ≤ v159_4 → v159_4 ≤ 5 → I159 g v159_1 v159_3 v159_4 → (¬ v159_3 = (-1) → (¬ v159_4 = (-1) → Q 0 g) ∧ (v159_4 = (-1) → I172 g v159_1)) ∧ (v159_3 = (-1) → I172 g v159_1)) ∧
    (∀ (g : zF) (v172_1 : Int), zFr [] s0 g → 2 ≤ v172_1 → v172_1 ≤ 88 → I172 g v172_1 → ∀ x29 : Int, x29 = v172_1 + 5 → ∀ x34 : Int, x34 = g (387) x29.toNat → 0 ≤ x34 → x34 ≤ 255 → ∀ x36 : Int, x36 = zxshl x34 8 → ∀ x37 : Int, x37 = v172_1 + 6 → ∀ x42 : Int, x42 = g (387) x37.toNat → 0 ≤ x42 → x42 ≤ 255 → ∀ x44 : Int, x44 = zxor x36 x42 → (9999 < x44 → Q 0 g) ∧ (x44 ≤ 9999 → Q 1 g))
set_option maxRecDepth 100000 in
theorem cj_2429 {s0 : zF} {a0 : Int} {Q1 Q2 : Int → zF → Prop} (h1 : b_2429 s0 a0 Q1) (h2 : p_2429 s0 a0 Q2) : b_2429 s0 a0 (fun v g => Q1 v g ∧ Q2 v g) := by
  obtain ⟨I129, I140, I159, I172, h1E, h1_0, h1_1, h1_2, h1_3⟩ := h1
  obtain ⟨J129, J140, J159, J172, h2E, h2_0, h2_1, h2_2, h2_3⟩ := h2
  refine ⟨fun n g y0 y1 y2 y3 => I129 n g y0 y1 y2 y3 ∧ J129 g y0 y1 y2 y3, fun n g y0 y1 y2 y3 => I140 n g y0 y1 y2 y3 ∧ J140 g y0 y1 y2 y3, fun n g y0 y1 y2 => I159 n g y0 y1 y2 ∧ J159 g y0 y1 y2, fun n g y0 => I172 n g y0 ∧ J172 g y0, ?_, ?_, ?_, ?_, ?_⟩
  · have h1 := h1E
    have h2 := h2E
    clear h1E h2E h1_0 h2_0 h1_1 h2_1 h1_2 h2_2 h1_3 h2_3
    intro x49 a2_0 a2_1 a2_2 x50 a2_3 x55 a2_4 a2_5 a2_6 x56 a2_7 x58 a2_8 x63 a2_9 a2_10 a2_11 x64 a2_12 x66 a2_13 a2_14 a2_15 x73 a2_16 a2_17 a2_18
    replace h1 := h1 x49 a2_0 a2_1 a2_2 x50 a2_3 x55 a2_4 a2_5 a2_6 x56 a2_7 x58 a2_8 x63 a2_9 a2_10 a2_11 x64 a2_12 x66 a2_13 a2_14 a2_15 x73 a2_16 a2_17 a2_18
    replace h2 := h2 x49 a2_0 a2_1 a2_2 x50 a2_3 x55 a2_4 a2_5 a2_6 x56 a2_7 x58 a2_8 x63 a2_9 a2_10 a2_11 x64 a2_12 x66 a2_13 a2_14 a2_15 x73 a2_16 a2_17 a2_18
    refine ⟨fun z => ?_, fun z => ?_⟩
    · replace h1 := h1.1 z
      replace h2 := h2.1 z
      intro x75 a3_0 x80 a3_1 a3_2 a3_3
      replace h1 := h1 x75 a3_0 x80 a3_1 a3_2 a3_3
      replace h2 := h2 x75 a3_0 x80 a3_1 a3_2 a3_3
      refine ⟨fun z => ?_, fun z => ?_⟩
      · replace h1 := h1.1 z
        replace h2 := h2.1 z
        exact ⟨h1, h2⟩
      · replace h1 := h1.2 z
        replace h2 := h2.2 z
        intro x85 a4_0 a4_1 a4_2
        replace h1 := h1 x85 a4_0 a4_1 a4_2
        replace h2 := h2 x85 a4_0 a4_1 a4_2
        refine ⟨fun z => ?_, fun z => ?_⟩
        · replace h1 := h1.1 z
          replace h2 := h2.1 z
          refine ⟨fun z => ?_, fun z => ?_⟩
          · replace h1 := h1.1 z
            replace h2 := h2.1 z
            refine ⟨fun z => ?_, fun z => ?_⟩
            · replace h1 := h1.1 z
              replace h2 := h2.1 z
              intro x92 a7_0 x97 a7_1 a7_2 a7_3 x98 a7_4 x100 a7_5 x105 a7_6
              replace h1 := h1 x92 a7_0 x97 a7_1 a7_2 a7_3 x98 a7_4 x100 a7_5 x105 a7_6
              replace h2 := h2 x92 a7_0 x97 a7_1 a7_2 a7_3 x98 a7_4 x100 a7_5 x105 a7_6
              refine ⟨fun z => ?_, fun z => ?_⟩
              · replace h1 := h1.1 z
                replace h2 := h2.1 z
                exact ⟨h1, h2⟩
              · replace h1 := h1.2 z
                replace h2 := h2.2 z
                refine ⟨fun z => ?_, fun z => ?_⟩
                · replace h1 := h1.1 z
                  replace h2 := h2.1 z
                  exact ⟨h1, h2⟩
                · replace h1 := h1.2 z
                  replace h2 := h2.2 z
                  obtain ⟨m, hi⟩ := h1
                  exact ⟨m, hi, h2⟩
            · replace h1 := h1.2 z
              replace h2 := h2.2 z
              intro x108 a7_0 x113 a7_1 a7_2 a7_3
              replace h1 := h1 x108 a7_0 x113 a7_1 a7_2 a7_3
              replace h2 := h2 x108 a7_0 x113 a7_1 a7_2 a7_3
              refine ⟨fun z => ?_, fun z => ?_⟩
              · replace h1 := h1.1 z
                replace h2 := h2.1 z
                exact ⟨h1, h2⟩
              · replace h1 := h1.2 z
                replace h2 := h2.2 z
                obtain ⟨m, hi⟩ := h1
                exact ⟨m, hi, h2⟩
          · replace h1 := h1.2 z
            replace h2 := h2.2 z
            exact ⟨h1, h2⟩
        · replace h1 := h1.2 z
          replace h2 := h2.2 z
          exact ⟨h1, h2⟩
    · replace h1 := h1.2 z
      replace h2 := h2.2 z
      exact ⟨h1, h2⟩
  · intro n g v129_1 v129_2 v129_3 v129_4 e0 e1 e2 e3 e4 e5 e6 e7 e8 hI
    have h1 := h1_0 n g v129_1 v129_2 v129_3 v129_4 e0 e1 e2 e3 e4 e5 e6 e7 e8 hI.1
    have h2 := h2_0 g v129_1 v129_2 v129_3 v129_4 e0 e1 e2 e3 e4 e5 e6 e7 e8 hI.2
    clear h1E h2E hI h1_0 h2_0 h1_1 h2_1 h1_2 h2_2 h1_3 h2_3
    refine ⟨fun z => ?_, fun z => ?_⟩
    · replace h1 := h1.1 z
      replace h2 := h2.1 z
      obtain ⟨m, hm, hi⟩ := h1
      exact ⟨m, hm, hi, h2⟩
    · replace h1 := h1.2 z
      replace h2 := h2.2 z
      refine ⟨fun z => ?_, fun z => ?_⟩
      · replace h1 := h1.1 z
        replace h2 := h2.1 z
        obtain ⟨m, hm, hi⟩ := h1
        exact ⟨m, hm, hi, h2⟩
      · replace h1 := h1.2 z
        replace h2 := h2.2 z
        obtain ⟨m, hm, hi⟩ := h1
        exact ⟨m, hm, hi, h2⟩
  · intro n g v140_1 v140_2 v140_3 v140_4 e0 e1 e2 e3 e4 e5 e6 e7 e8 hI
    have h1 := h1_1 n g v140_1 v140_2 v140_3 v140_4 e0 e1 e2 e3 e4 e5 e6 e7 e8 hI.1
    have h2 := h2_1 g v140_1 v140_2 v140_3 v140_4 e0 e1 e2 e3 e4 e5 e6 e7 e8 hI.2
    clear h1E h2E hI h1_0 h2_0 h1_1 h2_1 h1_2 h2_2 h1_3 h2_3
    intro x3 a2_0 x8 a2_1 a2_2 a2_3
    replace h1 := h1 x3 a2_0 x8 a2_1 a2_2 a2_3
    replace h2 := h2 x3 a2_0 x8 a2_1 a2_2 a2_3
    refine ⟨fun z => ?_, fun z => ?_⟩
    · replace h1 := h1.1 z
      replace h2 := h2.1 z
      intro x10 a3_0 a3_1 a3_2 x14 a3_3 x16 a3_4 x21 a3_5 a3_6 a3_7 x23 a3_8 a3_9 a3_10
      replace h1 := h1 x10 a3_0 a3_1 a3_2 x14 a3_3 x16 a3_4 x21 a3_5 a3_6 a3_7 x23 a3_8 a3_9 a3_10
      replace h2 := h2 x10 a3_0 a3_1 a3_2 x14 a3_3 x16 a3_4 x21 a3_5 a3_6 a3_7 x23 a3_8 a3_9 a3_10
      refine ⟨fun z => ?_, fun z => ?_⟩
      · replace h1 := h1.1 z
        replace h2 := h2.1 z
        exact ⟨h1, h2⟩
      · replace h1 := h1.2 z
        replace h2 := h2.2 z
        obtain ⟨m, hm, hi⟩ := h1
        exact ⟨m, hm, hi, h2⟩
    · replace h1 := h1.2 z
      replace h2 := h2.2 z
      exact ⟨h1, h2⟩
  · intro n g v159_1 v159_3 v159_4 e0 e1 e2 e3 e4 e5 e6 hI
    have h1 := h1_2 n g v159_1 v159_3 v159_4 e0 e1 e2 e3 e4 e5 e6 hI.1
    have h2 := h2_2 g v159_1 v159_3 v159_4 e0 e1 e2 e3 e4 e5 e6 hI.2
    clear h1E h2E hI h1_0 h2_0 h1_1 h2_1 h1_2 h2_2 h1_3 h2_3
    refine ⟨fun z => ?_, fun z => ?_⟩
    · replace h1 := h1.1 z
      replace h2 := h2.1 z
      refine ⟨fun z => ?_, fun z => ?_⟩
      · replace h1 := h1.1 z
        replace h2 := h2.1 z
        exact ⟨h1, h2⟩
      · replace h1 := h1.2 z
        replace h2 := h2.2 z
        obtain ⟨m, hm, hi⟩ := h1
        exact ⟨m, hm, hi, h2⟩
    · replace h1 := h1.2 z
      replace h2 := h2.2 z
      obtain ⟨m, hm, hi⟩ := h1
      exact ⟨m, hm, hi, h2⟩
  · intro n g v172_1 e0 e1 e2 hI
    have h1 := h1_3 n g v172_1 e0 e1 e2 hI.1
    have h2 := h2_3 g v172_1 e0 e1 e2 hI.2
    clear h1E h2E hI h1_0 h2_0 h1_1 h2_1 h1_2 h2_2 h1_3 h2_3
    intro x29 a2_0 x34 a2_1 a2_2 a2_3 x36 a2_4 x37 a2_5 x42 a2_6 a2_7 a2_8 x44 a2_9
    replace h1 := h1 x29 a2_0 x34 a2_1 a2_2 a2_3 x36 a2_4 x37 a2_5 x42 a2_6 a2_7 a2_8 x44 a2_9
    replace h2 := h2 x29 a2_0 x34 a2_1 a2_2 a2_3 x36 a2_4 x37 a2_5 x42 a2_6 a2_7 a2_8 x44 a2_9
    refine ⟨fun z => ?_, fun z => ?_⟩
    · replace h1 := h1.1 z
      replace h2 := h2.1 z
      exact ⟨h1, h2⟩
    · replace h1 := h1.2 z
      replace h2 := h2.2 z
      exact ⟨h1, h2⟩
set_option maxRecDepth 100000 in
def p_2427 (s0 : zF) (a0 : Int) (Q : Int → zF → Prop) : Prop :=
  ∃ (I27 : zF → Int → Int → Int → Prop) (I93 : zF → Int → Prop) (I119 : zF → Int → Int → Prop) (I167 : zF → Int → Prop),
    (∀ x125 : Int, x125 = s0 (386) 12 → 0 ≤ x125 → x125 ≤ 1 → ∀ x132 : Int, x132 = s0 (388) x125.toNat → 0 ≤ x132 → x132 ≤ 12 → ∀ x133 : Int, x133 = 7 * x132 → ∀ x135 : Int, x135 = 3 + x133 → ∃ P139 : Int → zF → Prop, p_2428 s0 P139 ∧ ∀ x142 : Int, 0 ≤ x142 → x142 ≤ 11 → ∀ g145 : zF, zFr [] s0 g145 → P139 x142 g145 → ∀ x147 : Int, x147 = 2 * x142 → ∀ x149 : Int, x149 = x135 + x147 → (¬ a0 = x149 → Q 0 g145) ∧ (a0 = x149 → I27 g145 a0 89 0)) ∧
    (∀ (g : zF) (v27_1 : Int) (v27_2 : Int) (v27_3 : Int), zFr [] s0 g → 3 ≤ v27_1 → v27_1 ≤ 109 → 0 ≤ v27_2 → v27_2 ≤ 250 → 0 ≤ v27_3 → v27_3 ≤ 108 → I27 g v27_1 v27_2 v27_3 → ∀ x1 : Int, x1 = v27_1 - 1 → (v27_3 < x1 → ∀ x4 : Int, x4 = 5 * v27_2 → ∀ x9 : Int, x9 = g (387) v27_3.toNat → 0 ≤ x9 → x9 ≤ 255 → ∀ x10 : Int, x10 = x4 + x9 → ∀ x12 : Int, 0 ≤ x12 → x12 < 251 → x12 = x10 % 251 → ∀ x16 : Int, x16 = v27_3 + 1 → I27 g v27_1 x12 x16) ∧ (x1 ≤ v27_3 → ∀ x18 : Int, x18 = v27_1 - 1 → ∀ x23 : Int, x23 = g (387) x18.toNat → 0 ≤ x23 → x23 ≤ 255 → (¬ x23 = v27_2 → Q 0 g) ∧ (x23 = v27_2 → ∀ x28 : Int, x28 = g (387) 0 → 0 ≤ x28 → x28 ≤ 255 → ∀ x30 : Int, x30 = zxshl x28 8 → ∀ x34 : Int, x34 = g (387) 1 → 0 ≤ x34 → x34 ≤ 255 → ∀ x36 : Int, x36 = zxor x30 x34 → (999 < x36 → Q 0 g) ∧ (x36 ≤ 999 → I93 g 0)))) ∧
    (∀ (g : zF) (v93_3 : Int), zFr [] s0 g → 0 ≤ v93_3 → v93_3 ≤ 12 → I93 g v93_3 → ∀ x38 : Int, x38 = g (386) 12 → 0 ≤ x38 → x38 ≤ 1 → ∀ x45 : Int, x45 = g (388) x38.toNat → 0 ≤ x45 → x45 ≤ 12 → (v93_3 < x45 → ∀ x47 : Int, x47 = 7 * v93_3 → ∀ x49 : Int, x49 = 2 + x47 → ∃ P53 : Int → zF → Prop, p_2429 g x49 P53 ∧ ∀ x56 : Int, 0 ≤ x56 → x56 ≤ 1 → ∀ g59 : zF, zFr [] g g59 → P53 x56 g59 → (¬ x56 = 0 → I119 g59 v93_3 0) ∧ (x56 = 0 → Q 0 g59)) ∧ (x45 ≤ v93_3 → I167 g 0)) ∧
    (∀ (g : zF) (v119_3 : Int) (v119_4 : Int), zFr [] s0 g → 0 ≤ v119_3 → v119_3 ≤ 11 → 0 ≤ v119_4 → v119_4 ≤ 11 → I119 g v119_3 v119_4 → (v119_4 < v119_3 → ∀ x63 : Int, x63 = 7 * v119_4 → ∀ x65 : Int, x65 = 2 + x63 → ∀ x70 : Int, x70 = g (387) x65.toNat → 0 ≤ x70 → x70 ≤ 255 → ∀ x71 : Int, x71 = 7 * v119_3 → ∀ x73 : Int, x73 = 2 + x71 → ∀ x78 : Int, x78 = g (387) x73.toNat → 0 ≤ x78 → x78 ≤ 255 → (¬ x70 = x78 → ∀ x80 : Int, x80 = v119_4 + 1 → I119 g v119_3 x80) ∧ (x70 = x78 → Q 0 g)) ∧ (v119_3 ≤ v119_4 → ∀ x82 : Int, x82 = v119_3 + 1 → I93 g x82)) ∧
    (∀ (g : zF) (v167_3 : Int), zFr [] s0 g → 0 ≤ v167_3 → v167_3 ≤ 11 → I167 g v167_3 → ∃ P86 : Int → zF → Prop, p_2428 g P86 ∧ ∀ x89 : Int, 0 ≤ x89 → x89 ≤ 11 → ∀ g92 : zF, zFr [] g g92 → P86 x89 g92 → (v167_3 < x89 → ∀ x95 : Int, x95 = g92 (386) 12 → 0 ≤ x95 → x95 ≤ 1 → ∀ x102 : Int, x102 = g92 (388) x95.toNat → 0 ≤ x102 → x102 ≤ 12 → ∀ x103 : Int, x103 = 7 * x102 → ∀ x105 : Int, x105 = 2 + x103 → ∀ x107 : Int, x107 = 2 * v167_3 → ∀ x109 : Int, x109 = x105 + x107 → ∀ x114 : Int, x114 = g92 (387) x109.toNat → 0 ≤ x114 → x114 ≤ 255 → (1 < x114 → Q 0 g92) ∧ (x114 ≤ 1 → ∀ x116 : Int, x116 = x109 + 1 → ∀ x121 : Int, x121 = g92 (387) x116.toNat → 0 ≤ x121 → x121 ≤ 255 → (99 < x121 → Q 0 g92) ∧ (x121 ≤ 99 → ∀ x123 : Int, x123 = v167_3 + 1 → I167 g92 x123))) ∧ (x89 ≤ v167_3 → Q 1 g92))
set_option maxRecDepth 100000 in
theorem cj_2427 {s0 : zF} {a0 : Int} {Q1 Q2 : Int → zF → Prop} (h1 : b_2427 s0 a0 Q1) (h2 : p_2427 s0 a0 Q2) : b_2427 s0 a0 (fun v g => Q1 v g ∧ Q2 v g) := by
  obtain ⟨I27, I93, I119, I167, h1E, h1_0, h1_1, h1_2, h1_3⟩ := h1
  obtain ⟨J27, J93, J119, J167, h2E, h2_0, h2_1, h2_2, h2_3⟩ := h2
  refine ⟨fun n g y0 y1 y2 => I27 n g y0 y1 y2 ∧ J27 g y0 y1 y2, fun n g y0 => I93 n g y0 ∧ J93 g y0, fun n g y0 y1 => I119 n g y0 y1 ∧ J119 g y0 y1, fun n g y0 => I167 n g y0 ∧ J167 g y0, ?_, ?_, ?_, ?_, ?_⟩
  · have h1 := h1E
    have h2 := h2E
    clear h1E h2E h1_0 h2_0 h1_1 h2_1 h1_2 h2_2 h1_3 h2_3
    intro x125 a2_0 a2_1 a2_2 x132 a2_3 a2_4 a2_5 x133 a2_6 x135 a2_7
    replace h1 := h1 x125 a2_0 a2_1 a2_2 x132 a2_3 a2_4 a2_5 x133 a2_6 x135 a2_7
    replace h2 := h2 x125 a2_0 a2_1 a2_2 x132 a2_3 a2_4 a2_5 x133 a2_6 x135 a2_7
    obtain ⟨P1, c1, h1⟩ := h1
    obtain ⟨P2, c2, h2⟩ := h2
    refine ⟨fun v g => P1 v g ∧ P2 v g, cj_2428 c1 c2, ?_⟩
    intro x142 a2_0 a2_1 g145 a2_2 a2_3 x147 a2_4 x149 a2_5
    replace h1 := h1 x142 a2_0 a2_1 g145 a2_2 a2_3.1 x147 a2_4 x149 a2_5
    replace h2 := h2 x142 a2_0 a2_1 g145 a2_2 a2_3.2 x147 a2_4 x149 a2_5
    refine ⟨fun z => ?_, fun z => ?_⟩
    · replace h1 := h1.1 z
      replace h2 := h2.1 z
      exact ⟨h1, h2⟩
    · replace h1 := h1.2 z
      replace h2 := h2.2 z
      obtain ⟨m, hi⟩ := h1
      exact ⟨m, hi, h2⟩
  · intro n g v27_1 v27_2 v27_3 e0 e1 e2 e3 e4 e5 e6 hI
    have h1 := h1_0 n g v27_1 v27_2 v27_3 e0 e1 e2 e3 e4 e5 e6 hI.1
    have h2 := h2_0 g v27_1 v27_2 v27_3 e0 e1 e2 e3 e4 e5 e6 hI.2
    clear h1E h2E hI h1_0 h2_0 h1_1 h2_1 h1_2 h2_2 h1_3 h2_3
    intro x1 a2_0
    replace h1 := h1 x1 a2_0
    replace h2 := h2 x1 a2_0
    refine ⟨fun z => ?_, fun z => ?_⟩
    · replace h1 := h1.1 z
      replace h2 := h2.1 z
      intro x4 a3_0 x9 a3_1 a3_2 a3_3 x10 a3_4 x12 a3_5 a3_6 a3_7 x16 a3_8
      replace h1 := h1 x4 a3_0 x9 a3_1 a3_2 a3_3 x10 a3_4 x12 a3_5 a3_6 a3_7 x16 a3_8
      replace h2 := h2 x4 a3_0 x9 a3_1 a3_2 a3_3 x10 a3_4 x12 a3_5 a3_6 a3_7 x16 a3_8
      obtain ⟨m, hm, hi⟩ := h1
      exact ⟨m, hm, hi, h2⟩
    · replace h1 := h1.2 z
      replace h2 := h2.2 z
      intro x18 a3_0 x23 a3_1 a3_2 a3_3
      replace h1 := h1 x18 a3_0 x23 a3_1 a3_2 a3_3
      replace h2 := h2 x18 a3_0 x23 a3_1 a3_2 a3_3
      refine ⟨fun z => ?_, fun z => ?_⟩
      · replace h1 := h1.1 z
        replace h2 := h2.1 z
        exact ⟨h1, h2⟩
      · replace h1 := h1.2 z
        replace h2 := h2.2 z
        intro x28 a4_0 a4_1 a4_2 x30 a4_3 x34 a4_4 a4_5 a4_6 x36 a4_7
        replace h1 := h1 x28 a4_0 a4_1 a4_2 x30 a4_3 x34 a4_4 a4_5 a4_6 x36 a4_7
        replace h2 := h2 x28 a4_0 a4_1 a4_2 x30 a4_3 x34 a4_4 a4_5 a4_6 x36 a4_7
        refine ⟨fun z => ?_, fun z => ?_⟩
        · replace h1 := h1.1 z
          replace h2 := h2.1 z
          exact ⟨h1, h2⟩
        · replace h1 := h1.2 z
          replace h2 := h2.2 z
          obtain ⟨m, hm, hi⟩ := h1
          exact ⟨m, hm, hi, h2⟩
  · intro n g v93_3 e0 e1 e2 hI
    have h1 := h1_1 n g v93_3 e0 e1 e2 hI.1
    have h2 := h2_1 g v93_3 e0 e1 e2 hI.2
    clear h1E h2E hI h1_0 h2_0 h1_1 h2_1 h1_2 h2_2 h1_3 h2_3
    intro x38 a2_0 a2_1 a2_2 x45 a2_3 a2_4 a2_5
    replace h1 := h1 x38 a2_0 a2_1 a2_2 x45 a2_3 a2_4 a2_5
    replace h2 := h2 x38 a2_0 a2_1 a2_2 x45 a2_3 a2_4 a2_5
    refine ⟨fun z => ?_, fun z => ?_⟩
    · replace h1 := h1.1 z
      replace h2 := h2.1 z
      intro x47 a3_0 x49 a3_1
      replace h1 := h1 x47 a3_0 x49 a3_1
      replace h2 := h2 x47 a3_0 x49 a3_1
      obtain ⟨P1, c1, h1⟩ := h1
      obtain ⟨P2, c2, h2⟩ := h2
      refine ⟨fun v g => P1 v g ∧ P2 v g, cj_2429 c1 c2, ?_⟩
      intro x56 a3_0 a3_1 g59 a3_2 a3_3
      replace h1 := h1 x56 a3_0 a3_1 g59 a3_2 a3_3.1
      replace h2 := h2 x56 a3_0 a3_1 g59 a3_2 a3_3.2
      refine ⟨fun z => ?_, fun z => ?_⟩
      · replace h1 := h1.1 z
        replace h2 := h2.1 z
        obtain ⟨m, hm, hi⟩ := h1
        exact ⟨m, hm, hi, h2⟩
      · replace h1 := h1.2 z
        replace h2 := h2.2 z
        exact ⟨h1, h2⟩
    · replace h1 := h1.2 z
      replace h2 := h2.2 z
      obtain ⟨m, hm, hi⟩ := h1
      exact ⟨m, hm, hi, h2⟩
  · intro n g v119_3 v119_4 e0 e1 e2 e3 e4 hI
    have h1 := h1_2 n g v119_3 v119_4 e0 e1 e2 e3 e4 hI.1
    have h2 := h2_2 g v119_3 v119_4 e0 e1 e2 e3 e4 hI.2
    clear h1E h2E hI h1_0 h2_0 h1_1 h2_1 h1_2 h2_2 h1_3 h2_3
    refine ⟨fun z => ?_, fun z => ?_⟩
    · replace h1 := h1.1 z
      replace h2 := h2.1 z
      intro x63 a3_0 x65 a3_1 x70 a3_2 a3_3 a3_4 x71 a3_5 x73 a3_6 x78 a3_7 a3_8 a3_9
      replace h1 := h1 x63 a3_0 x65 a3_1 x70 a3_2 a3_3 a3_4 x71 a3_5 x73 a3_6 x78 a3_7 a3_8 a3_9
      replace h2 := h2 x63 a3_0 x65 a3_1 x70 a3_2 a3_3 a3_4 x71 a3_5 x73 a3_6 x78 a3_7 a3_8 a3_9
      refine ⟨fun z => ?_, fun z => ?_⟩
      · replace h1 := h1.1 z
        replace h2 := h2.1 z
        intro x80 a4_0
        replace h1 := h1 x80 a4_0
        replace h2 := h2 x80 a4_0
        obtain ⟨m, hm, hi⟩ := h1
        exact ⟨m, hm, hi, h2⟩
      · replace h1 := h1.2 z
        replace h2 := h2.2 z
        exact ⟨h1, h2⟩
    · replace h1 := h1.2 z
      replace h2 := h2.2 z
      intro x82 a3_0
      replace h1 := h1 x82 a3_0
      replace h2 := h2 x82 a3_0
      obtain ⟨m, hm, hi⟩ := h1
      exact ⟨m, hm, hi, h2⟩
  · intro n g v167_3 e0 e1 e2 hI
    have h1 := h1_3 n g v167_3 e0 e1 e2 hI.1
    have h2 := h2_3 g v167_3 e0 e1 e2 hI.2
    clear h1E h2E hI h1_0 h2_0 h1_1 h2_1 h1_2 h2_2 h1_3 h2_3
    obtain ⟨P1, c1, h1⟩ := h1
    obtain ⟨P2, c2, h2⟩ := h2
    refine ⟨fun v g => P1 v g ∧ P2 v g, cj_2428 c1 c2, ?_⟩
    intro x89 a2_0 a2_1 g92 a2_2 a2_3
    replace h1 := h1 x89 a2_0 a2_1 g92 a2_2 a2_3.1
    replace h2 := h2 x89 a2_0 a2_1 g92 a2_2 a2_3.2
    refine ⟨fun z => ?_, fun z => ?_⟩
    · replace h1 := h1.1 z
      replace h2 := h2.1 z
      intro x95 a3_0 a3_1 a3_2 x102 a3_3 a3_4 a3_5 x103 a3_6 x105 a3_7 x107 a3_8 x109 a3_9 x114 a3_10 a3_11 a3_12
      replace h1 := h1 x95 a3_0 a3_1 a3_2 x102 a3_3 a3_4 a3_5 x103 a3_6 x105 a3_7 x107 a3_8 x109 a3_9 x114 a3_10 a3_11 a3_12
      replace h2 := h2 x95 a3_0 a3_1 a3_2 x102 a3_3 a3_4 a3_5 x103 a3_6 x105 a3_7 x107 a3_8 x109 a3_9 x114 a3_10 a3_11 a3_12
      refine ⟨fun z => ?_, fun z => ?_⟩
      · replace h1 := h1.1 z
        replace h2 := h2.1 z
        exact ⟨h1, h2⟩
      · replace h1 := h1.2 z
        replace h2 := h2.2 z
        intro x116 a4_0 x121 a4_1 a4_2 a4_3
        replace h1 := h1 x116 a4_0 x121 a4_1 a4_2 a4_3
        replace h2 := h2 x116 a4_0 x121 a4_1 a4_2 a4_3
        refine ⟨fun z => ?_, fun z => ?_⟩
        · replace h1 := h1.1 z
          replace h2 := h2.1 z
          exact ⟨h1, h2⟩
        · replace h1 := h1.2 z
          replace h2 := h2.2 z
          intro x123 a5_0
          replace h1 := h1 x123 a5_0
          replace h2 := h2 x123 a5_0
          obtain ⟨m, hm, hi⟩ := h1
          exact ⟨m, hm, hi, h2⟩
    · replace h1 := h1.2 z
      replace h2 := h2.2 z
      exact ⟨h1, h2⟩
set_option maxRecDepth 100000 in
def p_2426 (s0 : zF) (Q : Int → zF → Prop) : Prop :=
  ∃ (I56 : zF → Int → Prop) (I209 : zF → Int → Prop),
    (∀ x187 : Int, x187 = s0 (386) 1 → 0 ≤ x187 → x187 ≤ 1600 → ∀ g195 : zF, g195 = zup s0 (386) 1 0 → ∃ P198 : Int → zF → Prop, p_2427 g195 x187 P198 ∧ ∀ x201 : Int, 0 ≤ x201 → x201 ≤ 1 → ∀ g204 : zF, zFr [] g195 g204 → P198 x201 g204 → (¬ x201 = 0 → ∀ x210 : Int, x210 = g204 (387) 0 → 0 ≤ x210 → x210 ≤ 255 → ∀ x212 : Int, x212 = zxshl x210 8 → ∀ x216 : Int, x216 = g204 (387) 1 → 0 ≤ x216 → x216 ≤ 255 → ∀ x218 : Int, x218 = zxor x212 x216 → ∀ g223 : zF, g223 = zup g204 (418) 0 x218 → I56 g223 0) ∧ (x201 = 0 → ∀ x227 : Int, (-1) ≤ x227 → x227 ≤ (-1) → ∀ g230 : zF, zFr [(415, 416, 1000)] g204 g230 → Q 0 g230)) ∧
    (∀ (g : zF) (v56_2 : Int), zFr [(386, 387, 1), (415, 416, 1000), (418, 432, 1000), (386, 387, 65), (386, 387, 68)] s0 g → 0 ≤ v56_2 → v56_2 ≤ 12 → I56 g v56_2 → ∀ x1 : Int, x1 = g (386) 12 → 0 ≤ x1 → x1 ≤ 1 → ∀ x8 : Int, x8 = g (388) x1.toNat → 0 ≤ x8 → x8 ≤ 12 → (v56_2 < x8 → ∀ x10 : Int, x10 = 7 * v56_2 → ∀ x12 : Int, x12 = 2 + x10 → ∀ x17 : Int, x17 = g (387) x12.toNat → 0 ≤ x17 → x17 ≤ 255 → ∀ g21 : zF, zFr [(421, 426, 1000), (427, 429, 1000)] g g21 → (x17 ≤ 11) → ∀ g28 : zF, g28 = zup g21 (419) v56_2.toNat x17 → ∀ x29 : Int, x29 = x12 + 1 → ∀ x34 : Int, x34 = g28 (387) x29.toNat → 0 ≤ x34 → x34 ≤ 255 → ∀ g39 : zF, g39 = zup g28 (420) x17.toNat x34 → ∀ x40 : Int, x40 = x12 + 2 → ∀ x45 : Int, x45 = g39 (387) x40.toNat → 0 ≤ x45 → x45 ≤ 255 → ∀ x46 : Int, x46 = x45 - 1 → (x46 ≤ 5) → ∀ g53 : zF, g53 = zup g39 (421) x17.toNat x46 → ∀ x54 : Int, x54 = x12 + 3 → ∀ x59 : Int, x59 = g53 (387) x54.toNat → 0 ≤ x59 → x59 ≤ 255 → ∀ g64 : zF, g64 = zup g53 (422) x17.toNat x59 → ∀ x65 : Int, x65 = x12 + 4 → ∀ x70 : Int, x70 = g64 (387) x65.toNat → 0 ≤ x70 → x70 ≤ 255 → ∀ x71 : Int, x71 = x70 - 1 → (x71 ≤ 5) → ∀ g78 : zF, g78 = zup g64 (423) x17.toNat x71 → ∀ x79 : Int, x79 = x12 + 5 → ∀ x84 : Int, x84 = g78 (387) x79.toNat → 0 ≤ x84 → x84 ≤ 255 → ∀ x86 : Int, x86 = zxshl x84 8 → ∀ x87 : Int, x87 = x12 + 6 → ∀ x92 : Int, x92 = g78 (387) x87.toNat → 0 ≤ x92 → x92 ≤ 255 → ∀ x94 : Int, x94 = zxor x86 x92 → ∀ g99 : zF, g99 = zup g78 (426) x17.toNat x94 → ∀ g104 : zF, g104 = zup g99 (424) x17.toNat (-1) → ∀ g109 : zF, g109 = zup g104 (425) x17.toNat (-1) → ∀ x110 : Int, x110 = v56_2 + 1 → I56 g109 x110) ∧ (x8 ≤ v56_2 → I209 g 0)) ∧
    (∀ (g : zF) (v209_2 : Int), zFr [(386, 387, 1), (415, 416, 1000), (418, 432, 1000), (386, 387, 65), (386, 387, 68)] s0 g → 0 ≤ v209_2 → v209_2 ≤ 11 → I209 g v209_2 → ∃ P114 : Int → zF → Prop, p_2428 g P114 ∧ ∀ x117 : Int, 0 ≤ x117 → x117 ≤ 11 → ∀ g120 : zF, zFr [] g g120 → P114 x117 g120 → (v209_2 < x117 → ∀ x123 : Int, x123 = g120 (386) 12 → 0 ≤ x123 → x123 ≤ 1 → ∀ x130 : Int, x130 = g120 (388) x123.toNat → 0 ≤ x130 → x130 ≤ 12 → ∀ x131 : Int, x131 = 7 * x130 → ∀ x133 : Int, x133 = 2 + x131 → ∀ x135 : Int, x135 = 2 * v209_2 → ∀ x137 : Int, x137 = x133 + x135 → ∀ x142 : Int, x142 = g120 (387) x137.toNat → 0 ≤ x142 → x142 ≤ 255 → ∀ g147 : zF, g147 = zup g120 (429) v209_2.toNat x142 → ∀ x153 : Int, x153 = 7 * x130 → ∀ x155 : Int, x155 = 3 + x153 → ∀ x157 : Int, x157 = 2 * v209_2 → ∀ x159 : Int, x159 = x155 + x157 → ∀ x164 : Int, x164 = g147 (387) x159.toNat → 0 ≤ x164 → x164 ≤ 255 → ∀ g169 : zF, g169 = zup g147 (430) v209_2.toNat x164 → ∀ x170 : Int, x170 = v209_2 + 1 → I209 g169 x170) ∧ (x117 ≤ v209_2 → ∀ g176 : zF, g176 = zup g120 (431) 0 0 → ∀ g181 : zF, g181 = zup g176 (386) 65 0 → ∀ g186 : zF, g186 = zup g181 (386) 68 0 → Q 1 g186))
set_option maxRecDepth 100000 in
theorem cj_2426 {s0 : zF} {Q1 Q2 : Int → zF → Prop} (h1 : b_2426 s0 Q1) (h2 : p_2426 s0 Q2) : b_2426 s0 (fun v g => Q1 v g ∧ Q2 v g) := by
  obtain ⟨I56, I209, h1E, h1_0, h1_1⟩ := h1
  obtain ⟨J56, J209, h2E, h2_0, h2_1⟩ := h2
  refine ⟨fun n g y0 => I56 n g y0 ∧ J56 g y0, fun n g y0 => I209 n g y0 ∧ J209 g y0, ?_, ?_, ?_⟩
  · have h1 := h1E
    have h2 := h2E
    clear h1E h2E h1_0 h2_0 h1_1 h2_1
    intro x187 a2_0 a2_1 a2_2 g195 a2_3
    replace h1 := h1 x187 a2_0 a2_1 a2_2 g195 a2_3
    replace h2 := h2 x187 a2_0 a2_1 a2_2 g195 a2_3
    obtain ⟨P1, c1, h1⟩ := h1
    obtain ⟨P2, c2, h2⟩ := h2
    refine ⟨fun v g => P1 v g ∧ P2 v g, cj_2427 c1 c2, ?_⟩
    intro x201 a2_0 a2_1 g204 a2_2 a2_3
    replace h1 := h1 x201 a2_0 a2_1 g204 a2_2 a2_3.1
    replace h2 := h2 x201 a2_0 a2_1 g204 a2_2 a2_3.2
    refine ⟨fun z => ?_, fun z => ?_⟩
    · replace h1 := h1.1 z
      replace h2 := h2.1 z
      intro x210 a3_0 a3_1 a3_2 x212 a3_3 x216 a3_4 a3_5 a3_6 x218 a3_7 g223 a3_8
      replace h1 := h1 x210 a3_0 a3_1 a3_2 x212 a3_3 x216 a3_4 a3_5 a3_6 x218 a3_7 g223 a3_8
      replace h2 := h2 x210 a3_0 a3_1 a3_2 x212 a3_3 x216 a3_4 a3_5 a3_6 x218 a3_7 g223 a3_8
      obtain ⟨m, hi⟩ := h1
      exact ⟨m, hi, h2⟩
    · replace h1 := h1.2 z
      replace h2 := h2.2 z
      intro x227 a3_0 a3_1 g230 a3_2
      replace h1 := h1 x227 a3_0 a3_1 g230 a3_2
      replace h2 := h2 x227 a3_0 a3_1 g230 a3_2
      exact ⟨h1, h2⟩
  · intro n g v56_2 e0 e1 e2 hI
    have h1 := h1_0 n g v56_2 e0 e1 e2 hI.1
    have h2 := h2_0 g v56_2 e0 e1 e2 hI.2
    clear h1E h2E hI h1_0 h2_0 h1_1 h2_1
    intro x1 a2_0 a2_1 a2_2 x8 a2_3 a2_4 a2_5
    replace h1 := h1 x1 a2_0 a2_1 a2_2 x8 a2_3 a2_4 a2_5
    replace h2 := h2 x1 a2_0 a2_1 a2_2 x8 a2_3 a2_4 a2_5
    refine ⟨fun z => ?_, fun z => ?_⟩
    · replace h1 := h1.1 z
      replace h2 := h2.1 z
      intro x10 a3_0 x12 a3_1 x17 a3_2 a3_3 a3_4 g21 a3_5
      replace h1 := h1 x10 a3_0 x12 a3_1 x17 a3_2 a3_3 a3_4 g21 a3_5
      replace h2 := h2 x10 a3_0 x12 a3_1 x17 a3_2 a3_3 a3_4 g21 a3_5
      refine ⟨h1.1, ?_⟩
      replace h2 := h2 h1.1
      replace h1 := h1.2
      intro g28 a3_0 x29 a3_1 x34 a3_2 a3_3 a3_4 g39 a3_5 x40 a3_6 x45 a3_7 a3_8 a3_9 x46 a3_10
      replace h1 := h1 g28 a3_0 x29 a3_1 x34 a3_2 a3_3 a3_4 g39 a3_5 x40 a3_6 x45 a3_7 a3_8 a3_9 x46 a3_10
      replace h2 := h2 g28 a3_0 x29 a3_1 x34 a3_2 a3_3 a3_4 g39 a3_5 x40 a3_6 x45 a3_7 a3_8 a3_9 x46 a3_10
      refine ⟨h1.1, ?_⟩
      replace h2 := h2 h1.1
      replace h1 := h1.2
      intro g53 a3_0 x54 a3_1 x59 a3_2 a3_3 a3_4 g64 a3_5 x65 a3_6 x70 a3_7 a3_8 a3_9 x71 a3_10
      replace h1 := h1 g53 a3_0 x54 a3_1 x59 a3_2 a3_3 a3_4 g64 a3_5 x65 a3_6 x70 a3_7 a3_8 a3_9 x71 a3_10
      replace h2 := h2 g53 a3_0 x54 a3_1 x59 a3_2 a3_3 a3_4 g64 a3_5 x65 a3_6 x70 a3_7 a3_8 a3_9 x71 a3_10
      refine ⟨h1.1, ?_⟩
      replace h2 := h2 h1.1
      replace h1 := h1.2
      intro g78 a3_0 x79 a3_1 x84 a3_2 a3_3 a3_4 x86 a3_5 x87 a3_6 x92 a3_7 a3_8 a3_9 x94 a3_10 g99 a3_11 g104 a3_12 g109 a3_13 x110 a3_14
      replace h1 := h1 g78 a3_0 x79 a3_1 x84 a3_2 a3_3 a3_4 x86 a3_5 x87 a3_6 x92 a3_7 a3_8 a3_9 x94 a3_10 g99 a3_11 g104 a3_12 g109 a3_13 x110 a3_14
      replace h2 := h2 g78 a3_0 x79 a3_1 x84 a3_2 a3_3 a3_4 x86 a3_5 x87 a3_6 x92 a3_7 a3_8 a3_9 x94 a3_10 g99 a3_11 g104 a3_12 g109 a3_13 x110 a3_14
      obtain ⟨m, hm, hi⟩ := h1
      exact ⟨m, hm, hi, h2⟩
    · replace h1 := h1.2 z
      replace h2 := h2.2 z
      obtain ⟨m, hm, hi⟩ := h1
      exact ⟨m, hm, hi, h2⟩
  · intro n g v209_2 e0 e1 e2 hI
    have h1 := h1_1 n g v209_2 e0 e1 e2 hI.1
    have h2 := h2_1 g v209_2 e0 e1 e2 hI.2
    clear h1E h2E hI h1_0 h2_0 h1_1 h2_1
    obtain ⟨P1, c1, h1⟩ := h1
    obtain ⟨P2, c2, h2⟩ := h2
    refine ⟨fun v g => P1 v g ∧ P2 v g, cj_2428 c1 c2, ?_⟩
    intro x117 a2_0 a2_1 g120 a2_2 a2_3
    replace h1 := h1 x117 a2_0 a2_1 g120 a2_2 a2_3.1
    replace h2 := h2 x117 a2_0 a2_1 g120 a2_2 a2_3.2
    refine ⟨fun z => ?_, fun z => ?_⟩
    · replace h1 := h1.1 z
      replace h2 := h2.1 z
      intro x123 a3_0 a3_1 a3_2 x130 a3_3 a3_4 a3_5 x131 a3_6 x133 a3_7 x135 a3_8 x137 a3_9 x142 a3_10 a3_11 a3_12 g147 a3_13 x153 a3_14 x155 a3_15 x157 a3_16 x159 a3_17 x164 a3_18 a3_19 a3_20 g169 a3_21 x170 a3_22
      replace h1 := h1 x123 a3_0 a3_1 a3_2 x130 a3_3 a3_4 a3_5 x131 a3_6 x133 a3_7 x135 a3_8 x137 a3_9 x142 a3_10 a3_11 a3_12 g147 a3_13 x153 a3_14 x155 a3_15 x157 a3_16 x159 a3_17 x164 a3_18 a3_19 a3_20 g169 a3_21 x170 a3_22
      replace h2 := h2 x123 a3_0 a3_1 a3_2 x130 a3_3 a3_4 a3_5 x131 a3_6 x133 a3_7 x135 a3_8 x137 a3_9 x142 a3_10 a3_11 a3_12 g147 a3_13 x153 a3_14 x155 a3_15 x157 a3_16 x159 a3_17 x164 a3_18 a3_19 a3_20 g169 a3_21 x170 a3_22
      obtain ⟨m, hm, hi⟩ := h1
      exact ⟨m, hm, hi, h2⟩
    · replace h1 := h1.2 z
      replace h2 := h2.2 z
      intro g176 a3_0 g181 a3_1 g186 a3_2
      replace h1 := h1 g176 a3_0 g181 a3_1 g186 a3_2
      replace h2 := h2 g176 a3_0 g181 a3_1 g186 a3_2
      exact ⟨h1, h2⟩
