/-! partial conditions of the Reader (wip/safe/vcp.py) -/
set_option maxRecDepth 100000 in
def p_1297_c3 (s0 : zF) (Q : Int → zF → Prop) : Prop :=
  ∃ (I4 : zF → Int → Int → Prop) (I17 : zF → Int → Int → Int → Int → Prop) (I52 : zF → Int → Int → Int → Prop) (I95 : zF → Int → Int → Int → Int → Prop) (I115 : zF → Int → Int → Prop) (I130 : zF → Int → Prop),
    (I4 s0 0 0) ∧
    (∀ (g : zF) (v4_2 : Int) (v4_3 : Int), zFr [(2, 3, 0), (2, 3, 1), (20, 21, 1), (41, 42, 1), (21, 22, 1000), (42, 43, 1000), (2, 3, 7)] s0 g → (-13) ≤ v4_2 → v4_2 ≤ 0 → 0 ≤ v4_3 → v4_3 ≤ 1601 → I4 g v4_2 v4_3 → (1600 < v4_3 → Q 1 g) ∧ (v4_3 ≤ 1600 → I17 g v4_2 v4_3 0 0)) ∧
    (∀ (g : zF) (v17_2 : Int) (v17_3 : Int) (v17_4 : Int) (v17_5 : Int), zFr [(2, 3, 0), (2, 3, 1), (20, 21, 1), (41, 42, 1), (21, 22, 1000), (42, 43, 1000), (2, 3, 7)] s0 g → v17_2 ≤ 0 → 0 ≤ v17_3 → v17_3 ≤ 1600 → (-11) ≤ v17_4 → v17_4 ≤ 0 → 0 ≤ v17_5 → v17_5 ≤ 1601 → I17 g v17_2 v17_3 v17_4 v17_5 → (1600 < v17_5 → I115 g v17_2 v17_3) ∧ (v17_5 ≤ 1600 → ∃ P5 : Int → zF → Prop, p_1298_c3 g P5 ∧ ∀ x8 : Int, 0 ≤ x8 → x8 ≤ 1 → ∀ g11 : zF, zFr [(2, 3, 0), (2, 3, 1), (20, 21, 1), (41, 42, 1), (21, 22, 1000), (42, 43, 1000), (2, 3, 7)] g g11 → P5 x8 g11 → (¬ x8 = 0 → (¬ v17_4 = 0 → ∀ b15 : Nat, (b15 : Int) = g11 (2) 8 → (b15 = 7 ∨ b15 = 28) → ∀ g24 : zF, zFr [(b15 + 13, b15 + 14, 1), (b15 + 14, b15 + 15, 1000)] g11 g24 → I52 g24 v17_2 v17_3 v17_5) ∧ (v17_4 = 0 → I52 g11 v17_2 v17_3 v17_5)) ∧ (x8 = 0 → Q 0 g11))) ∧
    (∀ (g : zF) (v52_2 : Int) (v52_3 : Int) (v52_5 : Int), zFr [(2, 3, 0), (2, 3, 1), (20, 21, 1), (41, 42, 1), (21, 22, 1000), (42, 43, 1000), (2, 3, 7)] s0 g → v52_2 ≤ 0 → 0 ≤ v52_3 → v52_3 ≤ 1600 → 0 ≤ v52_5 → v52_5 ≤ 1600 → I52 g v52_2 v52_3 v52_5 → ∀ x31 : Int, 0 ≤ x31 → x31 ≤ 1 → ∀ g34 : zF, zFr [] g g34 → (¬ x31 = 0 → I95 g34 v52_2 v52_3 v52_5 (-9)) ∧ (x31 = 0 → ∀ x42 : Int, 0 ≤ x42 → x42 ≤ 1 → ∀ g45 : zF, zFr [] g34 g45 → (¬ x42 = 0 → I95 g45 v52_2 v52_3 v52_5 (-10)) ∧ (x42 = 0 → ∀ x53 : Int, 0 ≤ x53 → x53 ≤ 1 → ∀ g56 : zF, zFr [] g45 g56 → (¬ x53 = 0 → I95 g56 v52_2 v52_3 v52_5 (-11)) ∧ (x53 = 0 → I95 g56 v52_2 v52_3 v52_5 0)))) ∧
    (∀ (g : zF) (v95_2 : Int) (v95_3 : Int) (v95_5 : Int) (s95_0 : Int), zFr [(2, 3, 0), (2, 3, 1), (20, 21, 1), (41, 42, 1), (21, 22, 1000), (42, 43, 1000), (2, 3, 7)] s0 g → v95_2 ≤ 0 → 0 ≤ v95_3 → v95_3 ≤ 1600 → 0 ≤ v95_5 → v95_5 ≤ 1600 → (-11) ≤ s95_0 → s95_0 ≤ 0 → I95 g v95_2 v95_3 v95_5 s95_0 → (¬ s95_0 = 0 → ∀ g65 : zF, zFr [(2, 3, 7)] g g65 → ∀ x67 : Int, x67 = v95_5 + 1 → I17 g65 v95_2 v95_3 s95_0 x67) ∧ (s95_0 = 0 → I115 g v95_2 v95_3)) ∧
    (∀ (g : zF) (v115_2 : Int) (v115_3 : Int), zFr [(2, 3, 0), (2, 3, 1), (20, 21, 1), (41, 42, 1), (21, 22, 1000), (42, 43, 1000), (2, 3, 7)] s0 g → v115_2 ≤ 0 → 0 ≤ v115_3 → v115_3 ≤ 1600 → I115 g v115_2 v115_3 → (¬ v115_2 = 0 → ∀ b70 : Nat, (b70 : Int) = g (2) 8 → (b70 = 7 ∨ b70 = 28) → ∀ g79 : zF, zFr [(b70 + 13, b70 + 14, 1), (b70 + 14, b70 + 15, 1000)] g g79 → I130 g79 v115_3) ∧ (v115_2 = 0 → I130 g v115_3)) ∧
    (∀ (g : zF) (v130_3 : Int), zFr [(2, 3, 0), (2, 3, 1), (20, 21, 1), (41, 42, 1), (21, 22, 1000), (42, 43, 1000), (2, 3, 7)] s0 g → 0 ≤ v130_3 → v130_3 ≤ 1600 → I130 g v130_3 → ∀ x86 : Int, 0 ≤ x86 → x86 ≤ 1 → ∀ g89 : zF, zFr [] g g89 → (¬ x86 = 0 → ∀ g97 : zF, zFr [(2, 3, 7)] g89 g97 → ∀ x99 : Int, x99 = v130_3 + 1 → I4 g97 (-12) x99) ∧ (x86 = 0 → ∀ x106 : Int, 0 ≤ x106 → x106 ≤ 1 → ∀ g109 : zF, zFr [] g89 g109 → (¬ x106 = 0 → ∀ g117 : zF, zFr [(2, 3, 7)] g109 g117 → ∀ x119 : Int, x119 = v130_3 + 1 → I4 g117 (-13) x119) ∧ (x106 = 0 → Q 1 g109)))
set_option maxRecDepth 100000 in
theorem cj_1297_c3 {s0 : zF} {Q1 Q2 : Int → zF → Prop} (h1 : b_1297_c3 s0 Q1) (h2 : p_1297_c3 s0 Q2) : b_1297_c3 s0 (fun v g => Q1 v g ∧ Q2 v g) := by
  obtain ⟨I4, I17, I52, I95, I115, I130, h1E, h1_0, h1_1, h1_2, h1_3, h1_4, h1_5⟩ := h1
  obtain ⟨J4, J17, J52, J95, J115, J130, h2E, h2_0, h2_1, h2_2, h2_3, h2_4, h2_5⟩ := h2
  refine ⟨fun n g y0 y1 => I4 n g y0 y1 ∧ J4 g y0 y1, fun n g y0 y1 y2 y3 => I17 n g y0 y1 y2 y3 ∧ J17 g y0 y1 y2 y3, fun n g y0 y1 y2 => I52 n g y0 y1 y2 ∧ J52 g y0 y1 y2, fun n g y0 y1 y2 y3 => I95 n g y0 y1 y2 y3 ∧ J95 g y0 y1 y2 y3, fun n g y0 y1 => I115 n g y0 y1 ∧ J115 g y0 y1, fun n g y0 => I130 n g y0 ∧ J130 g y0, ?_, ?_, ?_, ?_, ?_, ?_, ?_⟩
  · have h1 := h1E
    have h2 := h2E
    clear h1E h2E h1_0 h2_0 h1_1 h2_1 h1_2 h2_2 h1_3 h2_3 h1_4 h2_4 h1_5 h2_5
    obtain ⟨m, hi⟩ := h1
    exact ⟨m, hi, h2⟩
  · intro n g v4_2 v4_3 e0 e1 e2 e3 e4 hI
    have h1 := h1_0 n g v4_2 v4_3 e0 e1 e2 e3 e4 hI.1
    have h2 := h2_0 g v4_2 v4_3 e0 e1 e2 e3 e4 hI.2
    clear h1E h2E hI h1_0 h2_0 h1_1 h2_1 h1_2 h2_2 h1_3 h2_3 h1_4 h2_4 h1_5 h2_5
    refine ⟨fun z => ?_, fun z => ?_⟩
    · replace h1 := h1.1 z
      replace h2 := h2.1 z
      exact ⟨h1, h2⟩
    · replace h1 := h1.2 z
      replace h2 := h2.2 z
      obtain ⟨m, hm, hi⟩ := h1
      exact ⟨m, hm, hi, h2⟩
  · intro n g v17_2 v17_3 v17_4 v17_5 e0 e1 e2 e3 e4 e5 e6 e7 hI
    have h1 := h1_1 n g v17_2 v17_3 v17_4 v17_5 e0 e1 e2 e3 e4 e5 e6 e7 hI.1
    have h2 := h2_1 g v17_2 v17_3 v17_4 v17_5 e0 e1 e2 e3 e4 e5 e6 e7 hI.2
    clear h1E h2E hI h1_0 h2_0 h1_1 h2_1 h1_2 h2_2 h1_3 h2_3 h1_4 h2_4 h1_5 h2_5
    refine ⟨fun z => ?_, fun z => ?_⟩
    · replace h1 := h1.1 z
      replace h2 := h2.1 z
      obtain ⟨m, hm, hi⟩ := h1
      exact ⟨m, hm, hi, h2⟩
    · replace h1 := h1.2 z
      replace h2 := h2.2 z
      obtain ⟨P1, c1, h1⟩ := h1
      obtain ⟨P2, c2, h2⟩ := h2
      refine ⟨fun v g => P1 v g ∧ P2 v g, cj_1298_c3 c1 c2, ?_⟩
      intro x8 a3_0 a3_1 g11 a3_2 a3_3
      replace h1 := h1 x8 a3_0 a3_1 g11 a3_2 a3_3.1
      replace h2 := h2 x8 a3_0 a3_1 g11 a3_2 a3_3.2
      refine ⟨fun z => ?_, fun z => ?_⟩
      · replace h1 := h1.1 z
        replace h2 := h2.1 z
        refine ⟨fun z => ?_, fun z => ?_⟩
        · replace h1 := h1.1 z
          replace h2 := h2.1 z
          intro b15 a5_0 a5_1
          replace h1 := h1 b15 a5_0 a5_1
          replace h2 := h2 b15 a5_0 a5_1
          obtain ⟨P1, c1, h1⟩ := h1
          refine ⟨P1, c1, ?_⟩
          intro g24 a5_0 a5_1
          replace h1 := h1 g24 a5_0 a5_1
          replace h2 := h2 g24 a5_0
          obtain ⟨m, hm, hi⟩ := h1
          exact ⟨m, hm, hi, h2⟩
        · replace h1 := h1.2 z
          replace h2 := h2.2 z
          obtain ⟨m, hm, hi⟩ := h1
          exact ⟨m, hm, hi, h2⟩
      · replace h1 := h1.2 z
        replace h2 := h2.2 z
        exact ⟨h1, h2⟩
  · intro n g v52_2 v52_3 v52_5 e0 e1 e2 e3 e4 e5 hI
    have h1 := h1_2 n g v52_2 v52_3 v52_5 e0 e1 e2 e3 e4 e5 hI.1
    have h2 := h2_2 g v52_2 v52_3 v52_5 e0 e1 e2 e3 e4 e5 hI.2
    clear h1E h2E hI h1_0 h2_0 h1_1 h2_1 h1_2 h2_2 h1_3 h2_3 h1_4 h2_4 h1_5 h2_5
    obtain ⟨P1, c1, h1⟩ := h1
    refine ⟨P1, c1, ?_⟩
    intro x31 a2_0 a2_1 g34 a2_2 a2_3
    replace h1 := h1 x31 a2_0 a2_1 g34 a2_2 a2_3
    replace h2 := h2 x31 a2_0 a2_1 g34 a2_2
    refine ⟨fun z => ?_, fun z => ?_⟩
    · replace h1 := h1.1 z
      replace h2 := h2.1 z
      obtain ⟨m, hm, hi⟩ := h1
      exact ⟨m, hm, hi, h2⟩
    · replace h1 := h1.2 z
      replace h2 := h2.2 z
      obtain ⟨P1, c1, h1⟩ := h1
      refine ⟨P1, c1, ?_⟩
      intro x42 a3_0 a3_1 g45 a3_2 a3_3
      replace h1 := h1 x42 a3_0 a3_1 g45 a3_2 a3_3
      replace h2 := h2 x42 a3_0 a3_1 g45 a3_2
      refine ⟨fun z => ?_, fun z => ?_⟩
      · replace h1 := h1.1 z
        replace h2 := h2.1 z
        obtain ⟨m, hm, hi⟩ := h1
        exact ⟨m, hm, hi, h2⟩
      · replace h1 := h1.2 z
        replace h2 := h2.2 z
        obtain ⟨P1, c1, h1⟩ := h1
        refine ⟨P1, c1, ?_⟩
        intro x53 a4_0 a4_1 g56 a4_2 a4_3
        replace h1 := h1 x53 a4_0 a4_1 g56 a4_2 a4_3
        replace h2 := h2 x53 a4_0 a4_1 g56 a4_2
        refine ⟨fun z => ?_, fun z => ?_⟩
        · replace h1 := h1.1 z
          replace h2 := h2.1 z
          obtain ⟨m, hm, hi⟩ := h1
          exact ⟨m, hm, hi, h2⟩
        · replace h1 := h1.2 z
          replace h2 := h2.2 z
          obtain ⟨m, hm, hi⟩ := h1
          exact ⟨m, hm, hi, h2⟩
  · intro n g v95_2 v95_3 v95_5 s95_0 e0 e1 e2 e3 e4 e5 e6 e7 hI
    have h1 := h1_3 n g v95_2 v95_3 v95_5 s95_0 e0 e1 e2 e3 e4 e5 e6 e7 hI.1
    have h2 := h2_3 g v95_2 v95_3 v95_5 s95_0 e0 e1 e2 e3 e4 e5 e6 e7 hI.2
    clear h1E h2E hI h1_0 h2_0 h1_1 h2_1 h1_2 h2_2 h1_3 h2_3 h1_4 h2_4 h1_5 h2_5
    refine ⟨fun z => ?_, fun z => ?_⟩
    · replace h1 := h1.1 z
      replace h2 := h2.1 z
      obtain ⟨P1, c1, h1⟩ := h1
      refine ⟨P1, c1, ?_⟩
      intro g65 a3_0 a3_1 x67 a3_2
      replace h1 := h1 g65 a3_0 a3_1 x67 a3_2
      replace h2 := h2 g65 a3_0 x67 a3_2
      obtain ⟨m, hm, hi⟩ := h1
      exact ⟨m, hm, hi, h2⟩
    · replace h1 := h1.2 z
      replace h2 := h2.2 z
      obtain ⟨m, hm, hi⟩ := h1
      exact ⟨m, hm, hi, h2⟩
  · intro n g v115_2 v115_3 e0 e1 e2 e3 hI
    have h1 := h1_4 n g v115_2 v115_3 e0 e1 e2 e3 hI.1
    have h2 := h2_4 g v115_2 v115_3 e0 e1 e2 e3 hI.2
    clear h1E h2E hI h1_0 h2_0 h1_1 h2_1 h1_2 h2_2 h1_3 h2_3 h1_4 h2_4 h1_5 h2_5
    refine ⟨fun z => ?_, fun z => ?_⟩
    · replace h1 := h1.1 z
      replace h2 := h2.1 z
      intro b70 a3_0 a3_1
      replace h1 := h1 b70 a3_0 a3_1
      replace h2 := h2 b70 a3_0 a3_1
      obtain ⟨P1, c1, h1⟩ := h1
      refine ⟨P1, c1, ?_⟩
      intro g79 a3_0 a3_1
      replace h1 := h1 g79 a3_0 a3_1
      replace h2 := h2 g79 a3_0
      obtain ⟨m, hm, hi⟩ := h1
      exact ⟨m, hm, hi, h2⟩
    · replace h1 := h1.2 z
      replace h2 := h2.2 z
      obtain ⟨m, hm, hi⟩ := h1
      exact ⟨m, hm, hi, h2⟩
  · intro n g v130_3 e0 e1 e2 hI
    have h1 := h1_5 n g v130_3 e0 e1 e2 hI.1
    have h2 := h2_5 g v130_3 e0 e1 e2 hI.2
    clear h1E h2E hI h1_0 h2_0 h1_1 h2_1 h1_2 h2_2 h1_3 h2_3 h1_4 h2_4 h1_5 h2_5
    obtain ⟨P1, c1, h1⟩ := h1
    refine ⟨P1, c1, ?_⟩
    intro x86 a2_0 a2_1 g89 a2_2 a2_3
    replace h1 := h1 x86 a2_0 a2_1 g89 a2_2 a2_3
    replace h2 := h2 x86 a2_0 a2_1 g89 a2_2
    refine ⟨fun z => ?_, fun z => ?_⟩
    · replace h1 := h1.1 z
      replace h2 := h2.1 z
      obtain ⟨P1, c1, h1⟩ := h1
      refine ⟨P1, c1, ?_⟩
      intro g97 a3_0 a3_1 x99 a3_2
      replace h1 := h1 g97 a3_0 a3_1 x99 a3_2
      replace h2 := h2 g97 a3_0 x99 a3_2
      obtain ⟨m, hm, hi⟩ := h1
      exact ⟨m, hm, hi, h2⟩
    · replace h1 := h1.2 z
      replace h2 := h2.2 z
      obtain ⟨P1, c1, h1⟩ := h1
      refine ⟨P1, c1, ?_⟩
      intro x106 a3_0 a3_1 g109 a3_2 a3_3
      replace h1 := h1 x106 a3_0 a3_1 g109 a3_2 a3_3
      replace h2 := h2 x106 a3_0 a3_1 g109 a3_2
      refine ⟨fun z => ?_, fun z => ?_⟩
      · replace h1 := h1.1 z
        replace h2 := h2.1 z
        obtain ⟨P1, c1, h1⟩ := h1
        refine ⟨P1, c1, ?_⟩
        intro g117 a4_0 a4_1 x119 a4_2
        replace h1 := h1 g117 a4_0 a4_1 x119 a4_2
        replace h2 := h2 g117 a4_0 x119 a4_2
        obtain ⟨m, hm, hi⟩ := h1
        exact ⟨m, hm, hi, h2⟩
      · replace h1 := h1.2 z
        replace h2 := h2.2 z
        exact ⟨h1, h2⟩
set_option maxRecDepth 100000 in
def p_1298_c2 (s0 : zF) (Q : Int → zF → Prop) : Prop :=
  ∃ (I73 : zF → Int → Prop) (I85 : zF → Int → Prop) (I99 : zF → Int → Int → Prop),
    (∀ x192 : Int, x192 = s0 (2) 7 → 0 ≤ x192 → x192 ≤ 1600 → ∀ x199 : Int, x199 = s0 (4) x192.toNat → 0 ≤ x199 → x199 ≤ 5 → (¬ x199 = 4 → ∀ x206 : Int, (-1) ≤ x206 → x206 ≤ 26 → ∀ g209 : zF, zFr [] s0 g209 → (¬ x206 = (-1) → (x206 < 7 → ∀ b213 : Nat, (b213 : Int) = g209 (2) 8 → (b213 = 7 ∨ b213 = 28) → ∀ x217 : Int, x217 = (-1) - x206 → ∀ g224 : zF, zFr [(b213 + 13, b213 + 14, 1), (b213 + 14, b213 + 15, 1000)] g209 g224 → ∀ g231 : zF, zFr [(2, 3, 7)] g224 g231 → Q 1 g231) ∧ (7 ≤ x206 → I73 g209 x206)) ∧ (x206 = (-1) → I73 g209 x206)) ∧ (x199 = 4 → ∀ b233 : Nat, (b233 : Int) = s0 (2) 8 → (b233 = 7 ∨ b233 = 28) → ∀ x240 : Int, x240 = s0 (5) x192.toNat → ∀ g246 : zF, zFr [(b233 + 13, b233 + 14, 1), (b233 + 14, b233 + 15, 1000)] s0 g246 → ∀ g253 : zF, zFr [(2, 3, 7)] g246 g253 → Q 1 g253)) ∧
    (∀ (g : zF) (v73_2 : Int), zFr [(2, 3, 0), (2, 3, 1), (20, 21, 1), (41, 42, 1), (21, 22, 1000), (42, 43, 1000), (2, 3, 7)] s0 g → (-1) ≤ v73_2 → v73_2 ≤ 26 → I73 g v73_2 → (¬ v73_2 = 25 → (¬ v73_2 = 26 → I99 g v73_2 0) ∧ (v73_2 = 26 → I85 g v73_2)) ∧ (v73_2 = 25 → I85 g v73_2)) ∧
    (∀ (g : zF) (v85_2 : Int), zFr [(2, 3, 0), (2, 3, 1), (20, 21, 1), (41, 42, 1), (21, 22, 1000), (42, 43, 1000), (2, 3, 7)] s0 g → 25 ≤ v85_2 → v85_2 ≤ 26 → I85 g v85_2 → ∀ g8 : zF, zFr [(2, 3, 7)] g g8 → I99 g8 v85_2 1) ∧
    (∀ (g : zF) (v99_2 : Int) (v99_3 : Int), zFr [(2, 3, 0), (2, 3, 1), (20, 21, 1), (41, 42, 1), (21, 22, 1000), (42, 43, 1000), (2, 3, 7)] s0 g → (-1) ≤ v99_2 → v99_2 ≤ 26 → 0 ≤ v99_3 → v99_3 ≤ 1 → I99 g v99_2 v99_3 → ∀ x15 : Int, 0 ≤ x15 → x15 ≤ 1 → ∀ g18 : zF, zFr [] g g18 → (¬ x15 = 0 → ∀ g26 : zF, zFr [(2, 3, 7)] g18 g26 → ∃ P30 : Int → zF → Prop, p_1297_c3 g26 P30 ∧ ∀ x33 : Int, 0 ≤ x33 → x33 ≤ 1 → ∀ g36 : zF, zFr [(2, 3, 0), (2, 3, 1), (20, 21, 1), (41, 42, 1), (21, 22, 1000), (42, 43, 1000), (2, 3, 7)] g26 g36 → P30 x33 g36 → (¬ x33 = 0 → (¬ v99_3 = 0 → ∀ x45 : Int, 0 ≤ x45 → x45 ≤ 1 → ∀ g48 : zF, zFr [] g36 g48 → (¬ x45 = 0 → ∀ g56 : zF, zFr [(2, 3, 7)] g48 g56 → ∃ P60 : Int → zF → Prop, p_1297_c3 g56 P60 ∧ ∀ x63 : Int, 0 ≤ x63 → x63 ≤ 1 → ∀ g66 : zF, zFr [(2, 3, 0), (2, 3, 1), (20, 21, 1), (41, 42, 1), (21, 22, 1000), (42, 43, 1000), (2, 3, 7)] g56 g66 → P60 x63 g66 → (¬ x63 = 0 → ∀ b69 : Nat, (b69 : Int) = g66 (2) 8 → (b69 = 7 ∨ b69 = 28) → (¬ v99_2 = 25 → ∀ g79 : zF, zFr [(b69 + 13, b69 + 14, 1), (b69 + 14, b69 + 15, 1000)] g66 g79 → ∀ x86 : Int, 0 ≤ x86 → x86 ≤ 1 → ∀ g89 : zF, zFr [] g79 g89 → (¬ x86 = 0 → ∀ g97 : zF, zFr [(2, 3, 7)] g89 g97 → Q 1 g97) ∧ (x86 = 0 → ∀ x104 : Int, 0 ≤ x104 → x104 ≤ 0 → ∀ g107 : zF, zFr [(2, 3, 0), (2, 3, 1)] g89 g107 → Q x104 g107)) ∧ (v99_2 = 25 → ∀ g114 : zF, zFr [(b69 + 13, b69 + 14, 1), (b69 + 14, b69 + 15, 1000)] g66 g114 → ∀ x121 : Int, 0 ≤ x121 → x121 ≤ 1 → ∀ g124 : zF, zFr [] g114 g124 → (¬ x121 = 0 → ∀ g132 : zF, zFr [(2, 3, 7)] g124 g132 → Q 1 g132) ∧ (x121 = 0 → ∀ x139 : Int, 0 ≤ x139 → x139 ≤ 0 → ∀ g142 : zF, zFr [(2, 3, 0), (2, 3, 1)] g124 g142 → Q x139 g142))) ∧ (x63 = 0 → Q 0 g66)) ∧ (x45 = 0 → ∀ x149 : Int, 0 ≤ x149 → x149 ≤ 0 → ∀ g152 : zF, zFr [(2, 3, 0), (2, 3, 1)] g48 g152 → Q x149 g152)) ∧ (v99_3 = 0 → ∀ x159 : Int, 0 ≤ x159 → x159 ≤ 1 → ∀ g162 : zF, zFr [] g36 g162 → (¬ x159 = 0 → ∀ g170 : zF, zFr [(2, 3, 7)] g162 g170 → Q 1 g170) ∧ (x159 = 0 → ∀ x177 : Int, 0 ≤ x177 → x177 ≤ 0 → ∀ g180 : zF, zFr [(2, 3, 0), (2, 3, 1)] g162 g180 → Q x177 g180))) ∧ (x33 = 0 → Q 0 g36)) ∧ (x15 = 0 → ∀ x187 : Int, 0 ≤ x187 → x187 ≤ 0 → ∀ g190 : zF, zFr [(2, 3, 0), (2, 3, 1)] g18 g190 → Q x187 g190))
set_option maxRecDepth 100000 in
theorem cj_1298_c2 {s0 : zF} {Q1 Q2 : Int → zF → Prop} (h1 : b_1298_c2 s0 Q1) (h2 : p_1298_c2 s0 Q2) : b_1298_c2 s0 (fun v g => Q1 v g ∧ Q2 v g) := by
  obtain ⟨I73, I85, I99, h1E, h1_0, h1_1, h1_2⟩ := h1
  obtain ⟨J73, J85, J99, h2E, h2_0, h2_1, h2_2⟩ := h2
  refine ⟨fun n g y0 => I73 n g y0 ∧ J73 g y0, fun n g y0 => I85 n g y0 ∧ J85 g y0, fun n g y0 y1 => I99 n g y0 y1 ∧ J99 g y0 y1, ?_, ?_, ?_, ?_⟩
  · have h1 := h1E
    have h2 := h2E
    clear h1E h2E h1_0 h2_0 h1_1 h2_1 h1_2 h2_2
    intro x192 a2_0 a2_1 a2_2 x199 a2_3 a2_4 a2_5
    replace h1 := h1 x192 a2_0 a2_1 a2_2 x199 a2_3 a2_4 a2_5
    replace h2 := h2 x192 a2_0 a2_1 a2_2 x199 a2_3 a2_4 a2_5
    refine ⟨fun z => ?_, fun z => ?_⟩
    · replace h1 := h1.1 z
      replace h2 := h2.1 z
      obtain ⟨P1, c1, h1⟩ := h1
      refine ⟨P1, c1, ?_⟩
      intro x206 a3_0 a3_1 g209 a3_2 a3_3
      replace h1 := h1 x206 a3_0 a3_1 g209 a3_2 a3_3
      replace h2 := h2 x206 a3_0 a3_1 g209 a3_2
      refine ⟨fun z => ?_, fun z => ?_⟩
      · replace h1 := h1.1 z
        replace h2 := h2.1 z
        refine ⟨fun z => ?_, fun z => ?_⟩
        · replace h1 := h1.1 z
          replace h2 := h2.1 z
          intro b213 a5_0 a5_1 x217 a5_2
          replace h1 := h1 b213 a5_0 a5_1 x217 a5_2
          replace h2 := h2 b213 a5_0 a5_1 x217 a5_2
          obtain ⟨P1, c1, h1⟩ := h1
          refine ⟨P1, c1, ?_⟩
          intro g224 a5_0 a5_1
          replace h1 := h1 g224 a5_0 a5_1
          replace h2 := h2 g224 a5_0
          obtain ⟨P1, c1, h1⟩ := h1
          refine ⟨P1, c1, ?_⟩
          intro g231 a5_0 a5_1
          replace h1 := h1 g231 a5_0 a5_1
          replace h2 := h2 g231 a5_0
          exact ⟨h1, h2⟩
        · replace h1 := h1.2 z
          replace h2 := h2.2 z
          obtain ⟨m, hi⟩ := h1
          exact ⟨m, hi, h2⟩
      · replace h1 := h1.2 z
        replace h2 := h2.2 z
        obtain ⟨m, hi⟩ := h1
        exact ⟨m, hi, h2⟩
    · replace h1 := h1.2 z
      replace h2 := h2.2 z
      intro b233 a3_0 a3_1 x240 a3_2
      replace h1 := h1 b233 a3_0 a3_1 x240 a3_2
      replace h2 := h2 b233 a3_0 a3_1 x240 a3_2
      obtain ⟨P1, c1, h1⟩ := h1
      refine ⟨P1, c1, ?_⟩
      intro g246 a3_0 a3_1
      replace h1 := h1 g246 a3_0 a3_1
      replace h2 := h2 g246 a3_0
      obtain ⟨P1, c1, h1⟩ := h1
      refine ⟨P1, c1, ?_⟩
      intro g253 a3_0 a3_1
      replace h1 := h1 g253 a3_0 a3_1
      replace h2 := h2 g253 a3_0
      exact ⟨h1, h2⟩
  · intro n g v73_2 e0 e1 e2 hI
    have h1 := h1_0 n g v73_2 e0 e1 e2 hI.1
    have h2 := h2_0 g v73_2 e0 e1 e2 hI.2
    clear h1E h2E hI h1_0 h2_0 h1_1 h2_1 h1_2 h2_2
    refine ⟨fun z => ?_, fun z => ?_⟩
    · replace h1 := h1.1 z
      replace h2 := h2.1 z
      refine ⟨fun z => ?_, fun z => ?_⟩
      · replace h1 := h1.1 z
        replace h2 := h2.1 z
        obtain ⟨m, hm, hi⟩ := h1
        exact ⟨m, hm, hi, h2⟩
      · replace h1 := h1.2 z
        replace h2 := h2.2 z
        obtain ⟨m, hm, hi⟩ := h1
        exact ⟨m, hm, hi, h2⟩
    · replace h1 := h1.2 z
      replace h2 := h2.2 z
      obtain ⟨m, hm, hi⟩ := h1
      exact ⟨m, hm, hi, h2⟩
  · intro n g v85_2 e0 e1 e2 hI
    have h1 := h1_1 n g v85_2 e0 e1 e2 hI.1
    have h2 := h2_1 g v85_2 e0 e1 e2 hI.2
    clear h1E h2E hI h1_0 h2_0 h1_1 h2_1 h1_2 h2_2
    obtain ⟨P1, c1, h1⟩ := h1
    refine ⟨P1, c1, ?_⟩
    intro g8 a2_0 a2_1
    replace h1 := h1 g8 a2_0 a2_1
    replace h2 := h2 g8 a2_0
    obtain ⟨m, hm, hi⟩ := h1
    exact ⟨m, hm, hi, h2⟩
  · intro n g v99_2 v99_3 e0 e1 e2 e3 e4 hI
    have h1 := h1_2 n g v99_2 v99_3 e0 e1 e2 e3 e4 hI.1
    have h2 := h2_2 g v99_2 v99_3 e0 e1 e2 e3 e4 hI.2
    clear h1E h2E hI h1_0 h2_0 h1_1 h2_1 h1_2 h2_2
    obtain ⟨P1, c1, h1⟩ := h1
    refine ⟨P1, c1, ?_⟩
    intro x15 a2_0 a2_1 g18 a2_2 a2_3
    replace h1 := h1 x15 a2_0 a2_1 g18 a2_2 a2_3
    replace h2 := h2 x15 a2_0 a2_1 g18 a2_2
    refine ⟨fun z => ?_, fun z => ?_⟩
    · replace h1 := h1.1 z
      replace h2 := h2.1 z
      obtain ⟨P1, c1, h1⟩ := h1
      refine ⟨P1, c1, ?_⟩
      intro g26 a3_0 a3_1
      replace h1 := h1 g26 a3_0 a3_1
      replace h2 := h2 g26 a3_0
      obtain ⟨P1, c1, h1⟩ := h1
      obtain ⟨P2, c2, h2⟩ := h2
      refine ⟨fun v g => P1 v g ∧ P2 v g, cj_1297_c3 c1 c2, ?_⟩
      intro x33 a3_0 a3_1 g36 a3_2 a3_3
      replace h1 := h1 x33 a3_0 a3_1 g36 a3_2 a3_3.1
      replace h2 := h2 x33 a3_0 a3_1 g36 a3_2 a3_3.2
      refine ⟨fun z => ?_, fun z => ?_⟩
      · replace h1 := h1.1 z
        replace h2 := h2.1 z
        refine ⟨fun z => ?_, fun z => ?_⟩
        · replace h1 := h1.1 z
          replace h2 := h2.1 z
          obtain ⟨P1, c1, h1⟩ := h1
          refine ⟨P1, c1, ?_⟩
          intro x45 a5_0 a5_1 g48 a5_2 a5_3
          replace h1 := h1 x45 a5_0 a5_1 g48 a5_2 a5_3
          replace h2 := h2 x45 a5_0 a5_1 g48 a5_2
          refine ⟨fun z => ?_, fun z => ?_⟩
          · replace h1 := h1.1 z
            replace h2 := h2.1 z
            obtain ⟨P1, c1, h1⟩ := h1
            refine ⟨P1, c1, ?_⟩
            intro g56 a6_0 a6_1
            replace h1 := h1 g56 a6_0 a6_1
            replace h2 := h2 g56 a6_0
            obtain ⟨P1, c1, h1⟩ := h1
            obtain ⟨P2, c2, h2⟩ := h2
            refine ⟨fun v g => P1 v g ∧ P2 v g, cj_1297_c3 c1 c2, ?_⟩
            intro x63 a6_0 a6_1 g66 a6_2 a6_3
            replace h1 := h1 x63 a6_0 a6_1 g66 a6_2 a6_3.1
            replace h2 := h2 x63 a6_0 a6_1 g66 a6_2 a6_3.2
            refine ⟨fun z => ?_, fun z => ?_⟩
            · replace h1 := h1.1 z
              replace h2 := h2.1 z
              intro b69 a7_0 a7_1
              replace h1 := h1 b69 a7_0 a7_1
              replace h2 := h2 b69 a7_0 a7_1
              refine ⟨fun z => ?_, fun z => ?_⟩
              · replace h1 := h1.1 z
                replace h2 := h2.1 z
                obtain ⟨P1, c1, h1⟩ := h1
                refine ⟨P1, c1, ?_⟩
                intro g79 a8_0 a8_1
                replace h1 := h1 g79 a8_0 a8_1
                replace h2 := h2 g79 a8_0
                obtain ⟨P1, c1, h1⟩ := h1
                refine ⟨P1, c1, ?_⟩
                intro x86 a8_0 a8_1 g89 a8_2 a8_3
                replace h1 := h1 x86 a8_0 a8_1 g89 a8_2 a8_3
                replace h2 := h2 x86 a8_0 a8_1 g89 a8_2
                refine ⟨fun z => ?_, fun z => ?_⟩
                · replace h1 := h1.1 z
                  replace h2 := h2.1 z
                  obtain ⟨P1, c1, h1⟩ := h1
                  refine ⟨P1, c1, ?_⟩
                  intro g97 a9_0 a9_1
                  replace h1 := h1 g97 a9_0 a9_1
                  replace h2 := h2 g97 a9_0
                  exact ⟨h1, h2⟩
                · replace h1 := h1.2 z
                  replace h2 := h2.2 z
                  obtain ⟨P1, c1, h1⟩ := h1
                  refine ⟨P1, c1, ?_⟩
                  intro x104 a9_0 a9_1 g107 a9_2 a9_3
                  replace h1 := h1 x104 a9_0 a9_1 g107 a9_2 a9_3
                  replace h2 := h2 x104 a9_0 a9_1 g107 a9_2
                  exact ⟨h1, h2⟩
              · replace h1 := h1.2 z
                replace h2 := h2.2 z
                obtain ⟨P1, c1, h1⟩ := h1
                refine ⟨P1, c1, ?_⟩
                intro g114 a8_0 a8_1
                replace h1 := h1 g114 a8_0 a8_1
                replace h2 := h2 g114 a8_0
                obtain ⟨P1, c1, h1⟩ := h1
                refine ⟨P1, c1, ?_⟩
                intro x121 a8_0 a8_1 g124 a8_2 a8_3
                replace h1 := h1 x121 a8_0 a8_1 g124 a8_2 a8_3
                replace h2 := h2 x121 a8_0 a8_1 g124 a8_2
                refine ⟨fun z => ?_, fun z => ?_⟩
                · replace h1 := h1.1 z
                  replace h2 := h2.1 z
                  obtain ⟨P1, c1, h1⟩ := h1
                  refine ⟨P1, c1, ?_⟩
                  intro g132 a9_0 a9_1
                  replace h1 := h1 g132 a9_0 a9_1
                  replace h2 := h2 g132 a9_0
                  exact ⟨h1, h2⟩
                · replace h1 := h1.2 z
                  replace h2 := h2.2 z
                  obtain ⟨P1, c1, h1⟩ := h1
                  refine ⟨P1, c1, ?_⟩
                  intro x139 a9_0 a9_1 g142 a9_2 a9_3
                  replace h1 := h1 x139 a9_0 a9_1 g142 a9_2 a9_3
                  replace h2 := h2 x139 a9_0 a9_1 g142 a9_2
                  exact ⟨h1, h2⟩
            · replace h1 := h1.2 z
              replace h2 := h2.2 z
              exact ⟨h1, h2⟩
          · replace h1 := h1.2 z
            replace h2 := h2.2 z
            obtain ⟨P1, c1, h1⟩ := h1
            refine ⟨P1, c1, ?_⟩
            intro x149 a6_0 a6_1 g152 a6_2 a6_3
            replace h1 := h1 x149 a6_0 a6_1 g152 a6_2 a6_3
            replace h2 := h2 x149 a6_0 a6_1 g152 a6_2
            exact ⟨h1, h2⟩
        · replace h1 := h1.2 z
          replace h2 := h2.2 z
          obtain ⟨P1, c1, h1⟩ := h1
          refine ⟨P1, c1, ?_⟩
          intro x159 a5_0 a5_1 g162 a5_2 a5_3
          replace h1 := h1 x159 a5_0 a5_1 g162 a5_2 a5_3
          replace h2 := h2 x159 a5_0 a5_1 g162 a5_2
          refine ⟨fun z => ?_, fun z => ?_⟩
          · replace h1 := h1.1 z
            replace h2 := h2.1 z
            obtain ⟨P1, c1, h1⟩ := h1
            refine ⟨P1, c1, ?_⟩
            intro g170 a6_0 a6_1
            replace h1 := h1 g170 a6_0 a6_1
            replace h2 := h2 g170 a6_0
            exact ⟨h1, h2⟩
          · replace h1 := h1.2 z
            replace h2 := h2.2 z
            obtain ⟨P1, c1, h1⟩ := h1
            refine ⟨P1, c1, ?_⟩
            intro x177 a6_0 a6_1 g180 a6_2 a6_3
            replace h1 := h1 x177 a6_0 a6_1 g180 a6_2 a6_3
            replace h2 := h2 x177 a6_0 a6_1 g180 a6_2
            exact ⟨h1, h2⟩
      · replace h1 := h1.2 z
        replace h2 := h2.2 z
        exact ⟨h1, h2⟩
    · replace h1 := h1.2 z
      replace h2 := h2.2 z
      obtain ⟨P1, c1, h1⟩ := h1
      refine ⟨P1, c1, ?_⟩
      intro x187 a3_0 a3_1 g190 a3_2 a3_3
      replace h1 := h1 x187 a3_0 a3_1 g190 a3_2 a3_3
      replace h2 := h2 x187 a3_0 a3_1 g190 a3_2
      exact ⟨h1, h2⟩
set_option maxRecDepth 100000 in
def p_1297_c2 (s0 : zF) (Q : Int → zF → Prop) : Prop :=
  ∃ (I4 : zF → Int → Int → Prop) (I17 : zF → Int → Int → Int → Int → Prop) (I52 : zF → Int → Int → Int → Prop) (I95 : zF → Int → Int → Int → Int → Prop) (I115 : zF → Int → Int → Prop) (I130 : zF → Int → Prop),
    (I4 s0 0 0) ∧
    (∀ (g : zF) (v4_2 : Int) (v4_3 : Int), zFr [(2, 3, 0), (2, 3, 1), (20, 21, 1), (41, 42, 1), (21, 22, 1000), (42, 43, 1000), (2, 3, 7)] s0 g → (-13) ≤ v4_2 → v4_2 ≤ 0 → 0 ≤ v4_3 → v4_3 ≤ 1601 → I4 g v4_2 v4_3 → (1600 < v4_3 → Q 1 g) ∧ (v4_3 ≤ 1600 → I17 g v4_2 v4_3 0 0)) ∧
    (∀ (g : zF) (v17_2 : Int) (v17_3 : Int) (v17_4 : Int) (v17_5 : Int), zFr [(2, 3, 0), (2, 3, 1), (20, 21, 1), (41, 42, 1), (21, 22, 1000), (42, 43, 1000), (2, 3, 7)] s0 g → v17_2 ≤ 0 → 0 ≤ v17_3 → v17_3 ≤ 1600 → (-11) ≤ v17_4 → v17_4 ≤ 0 → 0 ≤ v17_5 → v17_5 ≤ 1601 → I17 g v17_2 v17_3 v17_4 v17_5 → (1600 < v17_5 → I115 g v17_2 v17_3) ∧ (v17_5 ≤ 1600 → ∃ P5 : Int → zF → Prop, p_1298_c2 g P5 ∧ ∀ x8 : Int, 0 ≤ x8 → x8 ≤ 1 → ∀ g11 : zF, zFr [(2, 3, 0), (2, 3, 1), (20, 21, 1), (41, 42, 1), (21, 22, 1000), (42, 43, 1000), (2, 3, 7)] g g11 → P5 x8 g11 → (¬ x8 = 0 → (¬ v17_4 = 0 → ∀ b15 : Nat, (b15 : Int) = g11 (2) 8 → (b15 = 7 ∨ b15 = 28) → ∀ g24 : zF, zFr [(b15 + 13, b15 + 14, 1), (b15 + 14, b15 + 15, 1000)] g11 g24 → I52 g24 v17_2 v17_3 v17_5) ∧ (v17_4 = 0 → I52 g11 v17_2 v17_3 v17_5)) ∧ (x8 = 0 → Q 0 g11))) ∧
    (∀ (g : zF) (v52_2 : Int) (v52_3 : Int) (v52_5 : Int), zFr [(2, 3, 0), (2, 3, 1), (20, 21, 1), (41, 42, 1), (21, 22, 1000), (42, 43, 1000), (2, 3, 7)] s0 g → v52_2 ≤ 0 → 0 ≤ v52_3 → v52_3 ≤ 1600 → 0 ≤ v52_5 → v52_5 ≤ 1600 → I52 g v52_2 v52_3 v52_5 → ∀ x31 : Int, 0 ≤ x31 → x31 ≤ 1 → ∀ g34 : zF, zFr [] g g34 → (¬ x31 = 0 → I95 g34 v52_2 v52_3 v52_5 (-9)) ∧ (x31 = 0 → ∀ x42 : Int, 0 ≤ x42 → x42 ≤ 1 → ∀ g45 : zF, zFr [] g34 g45 → (¬ x42 = 0 → I95 g45 v52_2 v52_3 v52_5 (-10)) ∧ (x42 = 0 → ∀ x53 : Int, 0 ≤ x53 → x53 ≤ 1 → ∀ g56 : zF, zFr [] g45 g56 → (¬ x53 = 0 → I95 g56 v52_2 v52_3 v52_5 (-11)) ∧ (x53 = 0 → I95 g56 v52_2 v52_3 v52_5 0)))) ∧
    (∀ (g : zF) (v95_2 : Int) (v95_3 : Int) (v95_5 : Int) (s95_0 : Int), zFr [(2, 3, 0), (2, 3, 1), (20, 21, 1), (41, 42, 1), (21, 22, 1000), (42, 43, 1000), (2, 3, 7)] s0 g → v95_2 ≤ 0 → 0 ≤ v95_3 → v95_3 ≤ 1600 → 0 ≤ v95_5 → v95_5 ≤ 1600 → (-11) ≤ s95_0 → s95_0 ≤ 0 → I95 g v95_2 v95_3 v95_5 s95_0 → (¬ s95_0 = 0 → ∀ g65 : zF, zFr [(2, 3, 7)] g g65 → ∀ x67 : Int, x67 = v95_5 + 1 → I17 g65 v95_2 v95_3 s95_0 x67) ∧ (s95_0 = 0 → I115 g v95_2 v95_3)) ∧
    (∀ (g : zF) (v115_2 : Int) (v115_3 : Int), zFr [(2, 3, 0), (2, 3, 1), (20, 21, 1), (41, 42, 1), (21, 22, 1000), (42, 43, 1000), (2, 3, 7)] s0 g → v115_2 ≤ 0 → 0 ≤ v115_3 → v115_3 ≤ 1600 → I115 g v115_2 v115_3 → (¬ v115_2 = 0 → ∀ b70 : Nat, (b70 : Int) = g (2) 8 → (b70 = 7 ∨ b70 = 28) → ∀ g79 : zF, zFr [(b70 + 13, b70 + 14, 1), (b70 + 14, b70 + 15, 1000)] g g79 → I130 g79 v115_3) ∧ (v115_2 = 0 → I130 g v115_3)) ∧
    (∀ (g : zF) (v130_3 : Int), zFr [(2, 3, 0), (2, 3, 1), (20, 21, 1), (41, 42, 1), (21, 22, 1000), (42, 43, 1000), (2, 3, 7)] s0 g → 0 ≤ v130_3 → v130_3 ≤ 1600 → I130 g v130_3 → ∀ x86 : Int, 0 ≤ x86 → x86 ≤ 1 → ∀ g89 : zF, zFr [] g g89 → (¬ x86 = 0 → ∀ g97 : zF, zFr [(2, 3, 7)] g89 g97 → ∀ x99 : Int, x99 = v130_3 + 1 → I4 g97 (-12) x99) ∧ (x86 = 0 → ∀ x106 : Int, 0 ≤ x106 → x106 ≤ 1 → ∀ g109 : zF, zFr [] g89 g109 → (¬ x106 = 0 → ∀ g117 : zF, zFr [(2, 3, 7)] g109 g117 → ∀ x119 : Int, x119 = v130_3 + 1 → I4 g117 (-13) x119) ∧ (x106 = 0 → Q 1 g109)))
set_option maxRecDepth 100000 in
theorem cj_1297_c2 {s0 : zF} {Q1 Q2 : Int → zF → Prop} (h1 : b_1297_c2 s0 Q1) (h2 : p_1297_c2 s0 Q2) : b_1297_c2 s0 (fun v g => Q1 v g ∧ Q2 v g) := by
  obtain ⟨I4, I17, I52, I95, I115, I130, h1E, h1_0, h1_1, h1_2, h1_3, h1_4, h1_5⟩ := h1
  obtain ⟨J4, J17, J52, J95, J115, J130, h2E, h2_0, h2_1, h2_2, h2_3, h2_4, h2_5⟩ := h2
  refine ⟨fun n g y0 y1 => I4 n g y0 y1 ∧ J4 g y0 y1, fun n g y0 y1 y2 y3 => I17 n g y0 y1 y2 y3 ∧ J17 g y0 y1 y2 y3, fun n g y0 y1 y2 => I52 n g y0 y1 y2 ∧ J52 g y0 y1 y2, fun n g y0 y1 y2 y3 => I95 n g y0 y1 y2 y3 ∧ J95 g y0 y1 y2 y3, fun n g y0 y1 => I115 n g y0 y1 ∧ J115 g y0 y1, fun n g y0 => I130 n g y0 ∧ J130 g y0, ?_, ?_, ?_, ?_, ?_, ?_, ?_⟩
  · have h1 := h1E
    have h2 := h2E
    clear h1E h2E h1_0 h2_0 h1_1 h2_1 h1_2 h2_2 h1_3 h2_3 h1_4 h2_4 h1_5 h2_5
    obtain ⟨m, hi⟩ := h1
    exact ⟨m, hi, h2⟩
  · intro n g v4_2 v4_3 e0 e1 e2 e3 e4 hI
    have h1 := h1_0 n g v4_2 v4_3 e0 e1 e2 e3 e4 hI.1
    have h2 := h2_0 g v4_2 v4_3 e0 e1 e2 e3 e4 hI.2
    clear h1E h2E hI h1_0 h2_0 h1_1 h2_1 h1_2 h2_2 h1_3 h2_3 h1_4 h2_4 h1_5 h2_5
    refine ⟨fun z => ?_, fun z => ?_⟩
    · replace h1 := h1.1 z
      replace h2 := h2.1 z
      exact ⟨h1, h2⟩
    · replace h1 := h1.2 z
      replace h2 := h2.2 z
      obtain ⟨m, hm, hi⟩ := h1
      exact ⟨m, hm, hi, h2⟩
  · intro n g v17_2 v17_3 v17_4 v17_5 e0 e1 e2 e3 e4 e5 e6 e7 hI
    have h1 := h1_1 n g v17_2 v17_3 v17_4 v17_5 e0 e1 e2 e3 e4 e5 e6 e7 hI.1
    have h2 := h2_1 g v17_2 v17_3 v17_4 v17_5 e0 e1 e2 e3 e4 e5 e6 e7 hI.2
    clear h1E h2E hI h1_0 h2_0 h1_1 h2_1 h1_2 h2_2 h1_3 h2_3 h1_4 h2_4 h1_5 h2_5
    refine ⟨fun z => ?_, fun z => ?_⟩
    · replace h1 := h1.1 z
      replace h2 := h2.1 z
      obtain ⟨m, hm, hi⟩ := h1
      exact ⟨m, hm, hi, h2⟩
    · replace h1 := h1.2 z
      replace h2 := h2.2 z
      obtain ⟨P1, c1, h1⟩ := h1
      obtain ⟨P2, c2, h2⟩ := h2
      refine ⟨fun v g => P1 v g ∧ P2 v g, cj_1298_c2 c1 c2, ?_⟩
      intro x8 a3_0 a3_1 g11 a3_2 a3_3
      replace h1 := h1 x8 a3_0 a3_1 g11 a3_2 a3_3.1
      replace h2 := h2 x8 a3_0 a3_1 g11 a3_2 a3_3.2
      refine ⟨fun z => ?_, fun z => ?_⟩
      · replace h1 := h1.1 z
        replace h2 := h2.1 z
        refine ⟨fun z => ?_, fun z => ?_⟩
        · replace h1 := h1.1 z
          replace h2 := h2.1 z
          intro b15 a5_0 a5_1
          replace h1 := h1 b15 a5_0 a5_1
          replace h2 := h2 b15 a5_0 a5_1
          obtain ⟨P1, c1, h1⟩ := h1
          refine ⟨P1, c1, ?_⟩
          intro g24 a5_0 a5_1
          replace h1 := h1 g24 a5_0 a5_1
          replace h2 := h2 g24 a5_0
          obtain ⟨m, hm, hi⟩ := h1
          exact ⟨m, hm, hi, h2⟩
        · replace h1 := h1.2 z
          replace h2 := h2.2 z
          obtain ⟨m, hm, hi⟩ := h1
          exact ⟨m, hm, hi, h2⟩
      · replace h1 := h1.2 z
        replace h2 := h2.2 z
        exact ⟨h1, h2⟩
  · intro n g v52_2 v52_3 v52_5 e0 e1 e2 e3 e4 e5 hI
    have h1 := h1_2 n g v52_2 v52_3 v52_5 e0 e1 e2 e3 e4 e5 hI.1
    have h2 := h2_2 g v52_2 v52_3 v52_5 e0 e1 e2 e3 e4 e5 hI.2
    clear h1E h2E hI h1_0 h2_0 h1_1 h2_1 h1_2 h2_2 h1_3 h2_3 h1_4 h2_4 h1_5 h2_5
    obtain ⟨P1, c1, h1⟩ := h1
    refine ⟨P1, c1, ?_⟩
    intro x31 a2_0 a2_1 g34 a2_2 a2_3
    replace h1 := h1 x31 a2_0 a2_1 g34 a2_2 a2_3
    replace h2 := h2 x31 a2_0 a2_1 g34 a2_2
    refine ⟨fun z => ?_, fun z => ?_⟩
    · replace h1 := h1.1 z
      replace h2 := h2.1 z
      obtain ⟨m, hm, hi⟩ := h1
      exact ⟨m, hm, hi, h2⟩
    · replace h1 := h1.2 z
      replace h2 := h2.2 z
      obtain ⟨P1, c1, h1⟩ := h1
      refine ⟨P1, c1, ?_⟩
      intro x42 a3_0 a3_1 g45 a3_2 a3_3
      replace h1 := h1 x42 a3_0 a3_1 g45 a3_2 a3_3
      replace h2 := h2 x42 a3_0 a3_1 g45 a3_2
      refine ⟨fun z => ?_, fun z => ?_⟩
      · replace h1 := h1.1 z
        replace h2 := h2.1 z
        obtain ⟨m, hm, hi⟩ := h1
        exact ⟨m, hm, hi, h2⟩
      · replace h1 := h1.2 z
        replace h2 := h2.2 z
        obtain ⟨P1, c1, h1⟩ := h1
        refine ⟨P1, c1, ?_⟩
        intro x53 a4_0 a4_1 g56 a4_2 a4_3
        replace h1 := h1 x53 a4_0 a4_1 g56 a4_2 a4_3
        replace h2 := h2 x53 a4_0 a4_1 g56 a4_2
        refine ⟨fun z => ?_, fun z => ?_⟩
        · replace h1 := h1.1 z
          replace h2 := h2.1 z
          obtain ⟨m, hm, hi⟩ := h1
          exact ⟨m, hm, hi, h2⟩
        · replace h1 := h1.2 z
          replace h2 := h2.2 z
          obtain ⟨m, hm, hi⟩ := h1
          exact ⟨m, hm, hi, h2⟩
  · intro n g v95_2 v95_3 v95_5 s95_0 e0 e1 e2 e3 e4 e5 e6 e7 hI
    have h1 := h1_3 n g v95_2 v95_3 v95_5 s95_0 e0 e1 e2 e3 e4 e5 e6 e7 hI.1
    have h2 := h2_3 g v95_2 v95_3 v95_5 s95_0 e0 e1 e2 e3 e4 e5 e6 e7 hI.2
    clear h1E h2E hI h1_0 h2_0 h1_1 h2_1 h1_2 h2_2 h1_3 h2_3 h1_4 h2_4 h1_5 h2_5
    refine ⟨fun z => ?_, fun z => ?_⟩
    · replace h1 := h1.1 z
      replace h2 := h2.1 z
      obtain ⟨P1, c1, h1⟩ := h1
      refine ⟨P1, c1, ?_⟩
      intro g65 a3_0 a3_1 x67 a3_2
      replace h1 := h1 g65 a3_0 a3_1 x67 a3_2
      replace h2 := h2 g65 a3_0 x67 a3_2
      obtain ⟨m, hm, hi⟩ := h1
      exact ⟨m, hm, hi, h2⟩
    · replace h1 := h1.2 z
      replace h2 := h2.2 z
      obtain ⟨m, hm, hi⟩ := h1
      exact ⟨m, hm, hi, h2⟩
  · intro n g v115_2 v115_3 e0 e1 e2 e3 hI
    have h1 := h1_4 n g v115_2 v115_3 e0 e1 e2 e3 hI.1
    have h2 := h2_4 g v115_2 v115_3 e0 e1 e2 e3 hI.2
    clear h1E h2E hI h1_0 h2_0 h1_1 h2_1 h1_2 h2_2 h1_3 h2_3 h1_4 h2_4 h1_5 h2_5
    refine ⟨fun z => ?_, fun z => ?_⟩
    · replace h1 := h1.1 z
      replace h2 := h2.1 z
      intro b70 a3_0 a3_1
      replace h1 := h1 b70 a3_0 a3_1
      replace h2 := h2 b70 a3_0 a3_1
      obtain ⟨P1, c1, h1⟩ := h1
      refine ⟨P1, c1, ?_⟩
      intro g79 a3_0 a3_1
      replace h1 := h1 g79 a3_0 a3_1
      replace h2 := h2 g79 a3_0
      obtain ⟨m, hm, hi⟩ := h1
      exact ⟨m, hm, hi, h2⟩
    · replace h1 := h1.2 z
      replace h2 := h2.2 z
      obtain ⟨m, hm, hi⟩ := h1
      exact ⟨m, hm, hi, h2⟩
  · intro n g v130_3 e0 e1 e2 hI
    have h1 := h1_5 n g v130_3 e0 e1 e2 hI.1
    have h2 := h2_5 g v130_3 e0 e1 e2 hI.2
    clear h1E h2E hI h1_0 h2_0 h1_1 h2_1 h1_2 h2_2 h1_3 h2_3 h1_4 h2_4 h1_5 h2_5
    obtain ⟨P1, c1, h1⟩ := h1
    refine ⟨P1, c1, ?_⟩
    intro x86 a2_0 a2_1 g89 a2_2 a2_3
    replace h1 := h1 x86 a2_0 a2_1 g89 a2_2 a2_3
    replace h2 := h2 x86 a2_0 a2_1 g89 a2_2
    refine ⟨fun z => ?_, fun z => ?_⟩
    · replace h1 := h1.1 z
      replace h2 := h2.1 z
      obtain ⟨P1, c1, h1⟩ := h1
      refine ⟨P1, c1, ?_⟩
      intro g97 a3_0 a3_1 x99 a3_2
      replace h1 := h1 g97 a3_0 a3_1 x99 a3_2
      replace h2 := h2 g97 a3_0 x99 a3_2
      obtain ⟨m, hm, hi⟩ := h1
      exact ⟨m, hm, hi, h2⟩
    · replace h1 := h1.2 z
      replace h2 := h2.2 z
      obtain ⟨P1, c1, h1⟩ := h1
      refine ⟨P1, c1, ?_⟩
      intro x106 a3_0 a3_1 g109 a3_2 a3_3
      replace h1 := h1 x106 a3_0 a3_1 g109 a3_2 a3_3
      replace h2 := h2 x106 a3_0 a3_1 g109 a3_2
      refine ⟨fun z => ?_, fun z => ?_⟩
      · replace h1 := h1.1 z
        replace h2 := h2.1 z
        obtain ⟨P1, c1, h1⟩ := h1
        refine ⟨P1, c1, ?_⟩
        intro g117 a4_0 a4_1 x119 a4_2
        replace h1 := h1 g117 a4_0 a4_1 x119 a4_2
        replace h2 := h2 g117 a4_0 x119 a4_2
        obtain ⟨m, hm, hi⟩ := h1
        exact ⟨m, hm, hi, h2⟩
      · replace h1 := h1.2 z
        replace h2 := h2.2 z
        exact ⟨h1, h2⟩
set_option maxRecDepth 100000 in
def p_1298_c1 (s0 : zF) (Q : Int → zF → Prop) : Prop :=
  ∃ (I73 : zF → Int → Prop) (I85 : zF → Int → Prop) (I99 : zF → Int → Int → Prop),
    (∀ x192 : Int, x192 = s0 (2) 7 → 0 ≤ x192 → x192 ≤ 1600 → ∀ x199 : Int, x199 = s0 (4) x192.toNat → 0 ≤ x199 → x199 ≤ 5 → (¬ x199 = 4 → ∀ x206 : Int, (-1) ≤ x206 → x206 ≤ 26 → ∀ g209 : zF, zFr [] s0 g209 → (¬ x206 = (-1) → (x206 < 7 → ∀ b213 : Nat, (b213 : Int) = g209 (2) 8 → (b213 = 7 ∨ b213 = 28) → ∀ x217 : Int, x217 = (-1) - x206 → ∀ g224 : zF, zFr [(b213 + 13, b213 + 14, 1), (b213 + 14, b213 + 15, 1000)] g209 g224 → ∀ g231 : zF, zFr [(2, 3, 7)] g224 g231 → Q 1 g231) ∧ (7 ≤ x206 → I73 g209 x206)) ∧ (x206 = (-1) → I73 g209 x206)) ∧ (x199 = 4 → ∀ b233 : Nat, (b233 : Int) = s0 (2) 8 → (b233 = 7 ∨ b233 = 28) → ∀ x240 : Int, x240 = s0 (5) x192.toNat → ∀ g246 : zF, zFr [(b233 + 13, b233 + 14, 1), (b233 + 14, b233 + 15, 1000)] s0 g246 → ∀ g253 : zF, zFr [(2, 3, 7)] g246 g253 → Q 1 g253)) ∧
    (∀ (g : zF) (v73_2 : Int), zFr [(2, 3, 0), (2, 3, 1), (20, 21, 1), (41, 42, 1), (21, 22, 1000), (42, 43, 1000), (2, 3, 7)] s0 g → (-1) ≤ v73_2 → v73_2 ≤ 26 → I73 g v73_2 → (¬ v73_2 = 25 → (¬ v73_2 = 26 → I99 g v73_2 0) ∧ (v73_2 = 26 → I85 g v73_2)) ∧ (v73_2 = 25 → I85 g v73_2)) ∧
    (∀ (g : zF) (v85_2 : Int), zFr [(2, 3, 0), (2, 3, 1), (20, 21, 1), (41, 42, 1), (21, 22, 1000), (42, 43, 1000), (2, 3, 7)] s0 g → 25 ≤ v85_2 → v85_2 ≤ 26 → I85 g v85_2 → ∀ g8 : zF, zFr [(2, 3, 7)] g g8 → I99 g8 v85_2 1) ∧
    (∀ (g : zF) (v99_2 : Int) (v99_3 : Int), zFr [(2, 3, 0), (2, 3, 1), (20, 21, 1), (41, 42, 1), (21, 22, 1000), (42, 43, 1000), (2, 3, 7)] s0 g → (-1) ≤ v99_2 → v99_2 ≤ 26 → 0 ≤ v99_3 → v99_3 ≤ 1 → I99 g v99_2 v99_3 → ∀ x15 : Int, 0 ≤ x15 → x15 ≤ 1 → ∀ g18 : zF, zFr [] g g18 → (¬ x15 = 0 → ∀ g26 : zF, zFr [(2, 3, 7)] g18 g26 → ∃ P30 : Int → zF → Prop, p_1297_c2 g26 P30 ∧ ∀ x33 : Int, 0 ≤ x33 → x33 ≤ 1 → ∀ g36 : zF, zFr [(2, 3, 0), (2, 3, 1), (20, 21, 1), (41, 42, 1), (21, 22, 1000), (42, 43, 1000), (2, 3, 7)] g26 g36 → P30 x33 g36 → (¬ x33 = 0 → (¬ v99_3 = 0 → ∀ x45 : Int, 0 ≤ x45 → x45 ≤ 1 → ∀ g48 : zF, zFr [] g36 g48 → (¬ x45 = 0 → ∀ g56 : zF, zFr [(2, 3, 7)] g48 g56 → ∃ P60 : Int → zF → Prop, p_1297_c2 g56 P60 ∧ ∀ x63 : Int, 0 ≤ x63 → x63 ≤ 1 → ∀ g66 : zF, zFr [(2, 3, 0), (2, 3, 1), (20, 21, 1), (41, 42, 1), (21, 22, 1000), (42, 43, 1000), (2, 3, 7)] g56 g66 → P60 x63 g66 → (¬ x63 = 0 → ∀ b69 : Nat, (b69 : Int) = g66 (2) 8 → (b69 = 7 ∨ b69 = 28) → (¬ v99_2 = 25 → ∀ g79 : zF, zFr [(b69 + 13, b69 + 14, 1), (b69 + 14, b69 + 15, 1000)] g66 g79 → ∀ x86 : Int, 0 ≤ x86 → x86 ≤ 1 → ∀ g89 : zF, zFr [] g79 g89 → (¬ x86 = 0 → ∀ g97 : zF, zFr [(2, 3, 7)] g89 g97 → Q 1 g97) ∧ (x86 = 0 → ∀ x104 : Int, 0 ≤ x104 → x104 ≤ 0 → ∀ g107 : zF, zFr [(2, 3, 0), (2, 3, 1)] g89 g107 → Q x104 g107)) ∧ (v99_2 = 25 → ∀ g114 : zF, zFr [(b69 + 13, b69 + 14, 1), (b69 + 14, b69 + 15, 1000)] g66 g114 → ∀ x121 : Int, 0 ≤ x121 → x121 ≤ 1 → ∀ g124 : zF, zFr [] g114 g124 → (¬ x121 = 0 → ∀ g132 : zF, zFr [(2, 3, 7)] g124 g132 → Q 1 g132) ∧ (x121 = 0 → ∀ x139 : Int, 0 ≤ x139 → x139 ≤ 0 → ∀ g142 : zF, zFr [(2, 3, 0), (2, 3, 1)] g124 g142 → Q x139 g142))) ∧ (x63 = 0 → Q 0 g66)) ∧ (x45 = 0 → ∀ x149 : Int, 0 ≤ x149 → x149 ≤ 0 → ∀ g152 : zF, zFr [(2, 3, 0), (2, 3, 1)] g48 g152 → Q x149 g152)) ∧ (v99_3 = 0 → ∀ x159 : Int, 0 ≤ x159 → x159 ≤ 1 → ∀ g162 : zF, zFr [] g36 g162 → (¬ x159 = 0 → ∀ g170 : zF, zFr [(2, 3, 7)] g162 g170 → Q 1 g170) ∧ (x159 = 0 → ∀ x177 : Int, 0 ≤ x177 → x177 ≤ 0 → ∀ g180 : zF, zFr [(2, 3, 0), (2, 3, 1)] g162 g180 → Q x177 g180))) ∧ (x33 = 0 → Q 0 g36)) ∧ (x15 = 0 → ∀ x187 : Int, 0 ≤ x187 → x187 ≤ 0 → ∀ g190 : zF, zFr [(2, 3, 0), (2, 3, 1)] g18 g190 → Q x187 g190))
set_option maxRecDepth 100000 in
theorem cj_1298_c1 {s0 : zF} {Q1 Q2 : Int → zF → Prop} (h1 : b_1298_c1 s0 Q1) (h2 : p_1298_c1 s0 Q2) : b_1298_c1 s0 (fun v g => Q1 v g ∧ Q2 v g) := by
  obtain ⟨I73, I85, I99, h1E, h1_0, h1_1, h1_2⟩ := h1
  obtain ⟨J73, J85, J99, h2E, h2_0, h2_1, h2_2⟩ := h2
  refine ⟨fun n g y0 => I73 n g y0 ∧ J73 g y0, fun n g y0 => I85 n g y0 ∧ J85 g y0, fun n g y0 y1 => I99 n g y0 y1 ∧ J99 g y0 y1, ?_, ?_, ?_, ?_⟩
  · have h1 := h1E
    have h2 := h2E
    clear h1E h2E h1_0 h2_0 h1_1 h2_1 h1_2 h2_2
    intro x192 a2_0 a2_1 a2_2 x199 a2_3 a2_4 a2_5
    replace h1 := h1 x192 a2_0 a2_1 a2_2 x199 a2_3 a2_4 a2_5
    replace h2 := h2 x192 a2_0 a2_1 a2_2 x199 a2_3 a2_4 a2_5
    refine ⟨fun z => ?_, fun z => ?_⟩
    · replace h1 := h1.1 z
      replace h2 := h2.1 z
      obtain ⟨P1, c1, h1⟩ := h1
      refine ⟨P1, c1, ?_⟩
      intro x206 a3_0 a3_1 g209 a3_2 a3_3
      replace h1 := h1 x206 a3_0 a3_1 g209 a3_2 a3_3
      replace h2 := h2 x206 a3_0 a3_1 g209 a3_2
      refine ⟨fun z => ?_, fun z => ?_⟩
      · replace h1 := h1.1 z
        replace h2 := h2.1 z
        refine ⟨fun z => ?_, fun z => ?_⟩
        · replace h1 := h1.1 z
          replace h2 := h2.1 z
          intro b213 a5_0 a5_1 x217 a5_2
          replace h1 := h1 b213 a5_0 a5_1 x217 a5_2
          replace h2 := h2 b213 a5_0 a5_1 x217 a5_2
          obtain ⟨P1, c1, h1⟩ := h1
          refine ⟨P1, c1, ?_⟩
          intro g224 a5_0 a5_1
          replace h1 := h1 g224 a5_0 a5_1
          replace h2 := h2 g224 a5_0
          obtain ⟨P1, c1, h1⟩ := h1
          refine ⟨P1, c1, ?_⟩
          intro g231 a5_0 a5_1
          replace h1 := h1 g231 a5_0 a5_1
          replace h2 := h2 g231 a5_0
          exact ⟨h1, h2⟩
        · replace h1 := h1.2 z
          replace h2 := h2.2 z
          obtain ⟨m, hi⟩ := h1
          exact ⟨m, hi, h2⟩
      · replace h1 := h1.2 z
        replace h2 := h2.2 z
        obtain ⟨m, hi⟩ := h1
        exact ⟨m, hi, h2⟩
    · replace h1 := h1.2 z
      replace h2 := h2.2 z
      intro b233 a3_0 a3_1 x240 a3_2
      replace h1 := h1 b233 a3_0 a3_1 x240 a3_2
      replace h2 := h2 b233 a3_0 a3_1 x240 a3_2
      obtain ⟨P1, c1, h1⟩ := h1
      refine ⟨P1, c1, ?_⟩
      intro g246 a3_0 a3_1
      replace h1 := h1 g246 a3_0 a3_1
      replace h2 := h2 g246 a3_0
      obtain ⟨P1, c1, h1⟩ := h1
      refine ⟨P1, c1, ?_⟩
      intro g253 a3_0 a3_1
      replace h1 := h1 g253 a3_0 a3_1
      replace h2 := h2 g253 a3_0
      exact ⟨h1, h2⟩
  · intro n g v73_2 e0 e1 e2 hI
    have h1 := h1_0 n g v73_2 e0 e1 e2 hI.1
    have h2 := h2_0 g v73_2 e0 e1 e2 hI.2
    clear h1E h2E hI h1_0 h2_0 h1_1 h2_1 h1_2 h2_2
    refine ⟨fun z => ?_, fun z => ?_⟩
    · replace h1 := h1.1 z
      replace h2 := h2.1 z
      refine ⟨fun z => ?_, fun z => ?_⟩
      · replace h1 := h1.1 z
        replace h2 := h2.1 z
        obtain ⟨m, hm, hi⟩ := h1
        exact ⟨m, hm, hi, h2⟩
      · replace h1 := h1.2 z
        replace h2 := h2.2 z
        obtain ⟨m, hm, hi⟩ := h1
        exact ⟨m, hm, hi, h2⟩
    · replace h1 := h1.2 z
      replace h2 := h2.2 z
      obtain ⟨m, hm, hi⟩ := h1
      exact ⟨m, hm, hi, h2⟩
  · intro n g v85_2 e0 e1 e2 hI
    have h1 := h1_1 n g v85_2 e0 e1 e2 hI.1
    have h2 := h2_1 g v85_2 e0 e1 e2 hI.2
    clear h1E h2E hI h1_0 h2_0 h1_1 h2_1 h1_2 h2_2
    obtain ⟨P1, c1, h1⟩ := h1
    refine ⟨P1, c1, ?_⟩
    intro g8 a2_0 a2_1
    replace h1 := h1 g8 a2_0 a2_1
    replace h2 := h2 g8 a2_0
    obtain ⟨m, hm, hi⟩ := h1
    exact ⟨m, hm, hi, h2⟩
  · intro n g v99_2 v99_3 e0 e1 e2 e3 e4 hI
    have h1 := h1_2 n g v99_2 v99_3 e0 e1 e2 e3 e4 hI.1
    have h2 := h2_2 g v99_2 v99_3 e0 e1 e2 e3 e4 hI.2
    clear h1E h2E hI h1_0 h2_0 h1_1 h2_1 h1_2 h2_2
    obtain ⟨P1, c1, h1⟩ := h1
    refine ⟨P1, c1, ?_⟩
    intro x15 a2_0 a2_1 g18 a2_2 a2_3
    replace h1 := h1 x15 a2_0 a2_1 g18 a2_2 a2_3
    replace h2 := h2 x15 a2_0 a2_1 g18 a2_2
    refine ⟨fun z => ?_, fun z => ?_⟩
    · replace h1 := h1.1 z
      replace h2 := h2.1 z
      obtain ⟨P1, c1, h1⟩ := h1
      refine ⟨P1, c1, ?_⟩
      intro g26 a3_0 a3_1
      replace h1 := h1 g26 a3_0 a3_1
      replace h2 := h2 g26 a3_0
      obtain ⟨P1, c1, h1⟩ := h1
      obtain ⟨P2, c2, h2⟩ := h2
      refine ⟨fun v g => P1 v g ∧ P2 v g, cj_1297_c2 c1 c2, ?_⟩
      intro x33 a3_0 a3_1 g36 a3_2 a3_3
      replace h1 := h1 x33 a3_0 a3_1 g36 a3_2 a3_3.1
      replace h2 := h2 x33 a3_0 a3_1 g36 a3_2 a3_3.2
      refine ⟨fun z => ?_, fun z => ?_⟩
      · replace h1 := h1.1 z
        replace h2 := h2.1 z
        refine ⟨fun z => ?_, fun z => ?_⟩
        · replace h1 := h1.1 z
          replace h2 := h2.1 z
          obtain ⟨P1, c1, h1⟩ := h1
          refine ⟨P1, c1, ?_⟩
          intro x45 a5_0 a5_1 g48 a5_2 a5_3
          replace h1 := h1 x45 a5_0 a5_1 g48 a5_2 a5_3
          replace h2 := h2 x45 a5_0 a5_1 g48 a5_2
          refine ⟨fun z => ?_, fun z => ?_⟩
          · replace h1 := h1.1 z
            replace h2 := h2.1 z
            obtain ⟨P1, c1, h1⟩ := h1
            refine ⟨P1, c1, ?_⟩
            intro g56 a6_0 a6_1
            replace h1 := h1 g56 a6_0 a6_1
            replace h2 := h2 g56 a6_0
            obtain ⟨P1, c1, h1⟩ := h1
            obtain ⟨P2, c2, h2⟩ := h2
            refine ⟨fun v g => P1 v g ∧ P2 v g, cj_1297_c2 c1 c2, ?_⟩
            intro x63 a6_0 a6_1 g66 a6_2 a6_3
            replace h1 := h1 x63 a6_0 a6_1 g66 a6_2 a6_3.1
            replace h2 := h2 x63 a6_0 a6_1 g66 a6_2 a6_3.2
            refine ⟨fun z => ?_, fun z => ?_⟩
            · replace h1 := h1.1 z
              replace h2 := h2.1 z
              intro b69 a7_0 a7_1
              replace h1 := h1 b69 a7_0 a7_1
              replace h2 := h2 b69 a7_0 a7_1
              refine ⟨fun z => ?_, fun z => ?_⟩
              · replace h1 := h1.1 z
                replace h2 := h2.1 z
                obtain ⟨P1, c1, h1⟩ := h1
                refine ⟨P1, c1, ?_⟩
                intro g79 a8_0 a8_1
                replace h1 := h1 g79 a8_0 a8_1
                replace h2 := h2 g79 a8_0
                obtain ⟨P1, c1, h1⟩ := h1
                refine ⟨P1, c1, ?_⟩
                intro x86 a8_0 a8_1 g89 a8_2 a8_3
                replace h1 := h1 x86 a8_0 a8_1 g89 a8_2 a8_3
                replace h2 := h2 x86 a8_0 a8_1 g89 a8_2
                refine ⟨fun z => ?_, fun z => ?_⟩
                · replace h1 := h1.1 z
                  replace h2 := h2.1 z
                  obtain ⟨P1, c1, h1⟩ := h1
                  refine ⟨P1, c1, ?_⟩
                  intro g97 a9_0 a9_1
                  replace h1 := h1 g97 a9_0 a9_1
                  replace h2 := h2 g97 a9_0
                  exact ⟨h1, h2⟩
                · replace h1 := h1.2 z
                  replace h2 := h2.2 z
                  obtain ⟨P1, c1, h1⟩ := h1
                  refine ⟨P1, c1, ?_⟩
                  intro x104 a9_0 a9_1 g107 a9_2 a9_3
                  replace h1 := h1 x104 a9_0 a9_1 g107 a9_2 a9_3
                  replace h2 := h2 x104 a9_0 a9_1 g107 a9_2
                  exact ⟨h1, h2⟩
              · replace h1 := h1.2 z
                replace h2 := h2.2 z
                obtain ⟨P1, c1, h1⟩ := h1
                refine ⟨P1, c1, ?_⟩
                intro g114 a8_0 a8_1
                replace h1 := h1 g114 a8_0 a8_1
                replace h2 := h2 g114 a8_0
                obtain ⟨P1, c1, h1⟩ := h1
                refine ⟨P1, c1, ?_⟩
                intro x121 a8_0 a8_1 g124 a8_2 a8_3
                replace h1 := h1 x121 a8_0 a8_1 g124 a8_2 a8_3
                replace h2 := h2 x121 a8_0 a8_1 g124 a8_2
                refine ⟨fun z => ?_, fun z => ?_⟩
                · replace h1 := h1.1 z
                  replace h2 := h2.1 z
                  obtain ⟨P1, c1, h1⟩ := h1
                  refine ⟨P1, c1, ?_⟩
                  intro g132 a9_0 a9_1
                  replace h1 := h1 g132 a9_0 a9_1
                  replace h2 := h2 g132 a9_0
                  exact ⟨h1, h2⟩
                · replace h1 := h1.2 z
                  replace h2 := h2.2 z
                  obtain ⟨P1, c1, h1⟩ := h1
                  refine ⟨P1, c1, ?_⟩
                  intro x139 a9_0 a9_1 g142 a9_2 a9_3
                  replace h1 := h1 x139 a9_0 a9_1 g142 a9_2 a9_3
                  replace h2 := h2 x139 a9_0 a9_1 g142 a9_2
                  exact ⟨h1, h2⟩
            · replace h1 := h1.2 z
              replace h2 := h2.2 z
              exact ⟨h1, h2⟩
          · replace h1 := h1.2 z
            replace h2 := h2.2 z
            obtain ⟨P1, c1, h1⟩ := h1
            refine ⟨P1, c1, ?_⟩
            intro x149 a6_0 a6_1 g152 a6_2 a6_3
            replace h1 := h1 x149 a6_0 a6_1 g152 a6_2 a6_3
            replace h2 := h2 x149 a6_0 a6_1 g152 a6_2
            exact ⟨h1, h2⟩
        · replace h1 := h1.2 z
          replace h2 := h2.2 z
          obtain ⟨P1, c1, h1⟩ := h1
          refine ⟨P1, c1, ?_⟩
          intro x159 a5_0 a5_1 g162 a5_2 a5_3
          replace h1 := h1 x159 a5_0 a5_1 g162 a5_2 a5_3
          replace h2 := h2 x159 a5_0 a5_1 g162 a5_2
          refine ⟨fun z => ?_, fun z => ?_⟩
          · replace h1 := h1.1 z
            replace h2 := h2.1 z
            obtain ⟨P1, c1, h1⟩ := h1
            refine ⟨P1, c1, ?_⟩
            intro g170 a6_0 a6_1
            replace h1 := h1 g170 a6_0 a6_1
            replace h2 := h2 g170 a6_0
            exact ⟨h1, h2⟩
          · replace h1 := h1.2 z
            replace h2 := h2.2 z
            obtain ⟨P1, c1, h1⟩ := h1
            refine ⟨P1, c1, ?_⟩
            intro x177 a6_0 a6_1 g180 a6_2 a6_3
            replace h1 := h1 x177 a6_0 a6_1 g180 a6_2 a6_3
            replace h2 := h2 x177 a6_0 a6_1 g180 a6_2
            exact ⟨h1, h2⟩
      · replace h1 := h1.2 z
        replace h2 := h2.2 z
        exact ⟨h1, h2⟩
    · replace h1 := h1.2 z
      replace h2 := h2.2 z
      obtain ⟨P1, c1, h1⟩ := h1
      refine ⟨P1, c1, ?_⟩
      intro x187 a3_0 a3_1 g190 a3_2 a3_3
      replace h1 := h1 x187 a3_0 a3_1 g190 a3_2 a3_3
      replace h2 := h2 x187 a3_0 a3_1 g190 a3_2
      exact ⟨h1, h2⟩
set_option maxRecDepth 100000 in
def p_1297_c1 (s0 : zF) (Q : Int → zF → Prop) : Prop :=
  ∃ (I4 : zF → Int → Int → Prop) (I17 : zF → Int → Int → Int → Int → Prop) (I52 : zF → Int → Int → Int → Prop) (I95 : zF → Int → Int → Int → Int → Prop) (I115 : zF → Int → Int → Prop) (I130 : zF → Int → Prop),
    (I4 s0 0 0) ∧
    (∀ (g : zF) (v4_2 : Int) (v4_3 : Int), zFr [(2, 3, 0), (2, 3, 1), (20, 21, 1), (41, 42, 1), (21, 22, 1000), (42, 43, 1000), (2, 3, 7)] s0 g → (-13) ≤ v4_2 → v4_2 ≤ 0 → 0 ≤ v4_3 → v4_3 ≤ 1601 → I4 g v4_2 v4_3 → (1600 < v4_3 → Q 1 g) ∧ (v4_3 ≤ 1600 → I17 g v4_2 v4_3 0 0)) ∧
    (∀ (g : zF) (v17_2 : Int) (v17_3 : Int) (v17_4 : Int) (v17_5 : Int), zFr [(2, 3, 0), (2, 3, 1), (20, 21, 1), (41, 42, 1), (21, 22, 1000), (42, 43, 1000), (2, 3, 7)] s0 g → v17_2 ≤ 0 → 0 ≤ v17_3 → v17_3 ≤ 1600 → (-11) ≤ v17_4 → v17_4 ≤ 0 → 0 ≤ v17_5 → v17_5 ≤ 1601 → I17 g v17_2 v17_3 v17_4 v17_5 → (1600 < v17_5 → I115 g v17_2 v17_3) ∧ (v17_5 ≤ 1600 → ∃ P5 : Int → zF → Prop, p_1298_c1 g P5 ∧ ∀ x8 : Int, 0 ≤ x8 → x8 ≤ 1 → ∀ g11 : zF, zFr [(2, 3, 0), (2, 3, 1), (20, 21, 1), (41, 42, 1), (21, 22, 1000), (42, 43, 1000), (2, 3, 7)] g g11 → P5 x8 g11 → (¬ x8 = 0 → (¬ v17_4 = 0 → ∀ b15 : Nat, (b15 : Int) = g11 (2) 8 → (b15 = 7 ∨ b15 = 28) → ∀ g24 : zF, zFr [(b15 + 13, b15 + 14, 1), (b15 + 14, b15 + 15, 1000)] g11 g24 → I52 g24 v17_2 v17_3 v17_5) ∧ (v17_4 = 0 → I52 g11 v17_2 v17_3 v17_5)) ∧ (x8 = 0 → Q 0 g11))) ∧
    (∀ (g : zF) (v52_2 : Int) (v52_3 : Int) (v52_5 : Int), zFr [(2, 3, 0), (2, 3, 1), (20, 21, 1), (41, 42, 1), (21, 22, 1000), (42, 43, 1000), (2, 3, 7)] s0 g → v52_2 ≤ 0 → 0 ≤ v52_3 → v52_3 ≤ 1600 → 0 ≤ v52_5 → v52_5 ≤ 1600 → I52 g v52_2 v52_3 v52_5 → ∀ x31 : Int, 0 ≤ x31 → x31 ≤ 1 → ∀ g34 : zF, zFr [] g g34 → (¬ x31 = 0 → I95 g34 v52_2 v52_3 v52_5 (-9)) ∧ (x31 = 0 → ∀ x42 : Int, 0 ≤ x42 → x42 ≤ 1 → ∀ g45 : zF, zFr [] g34 g45 → (¬ x42 = 0 → I95 g45 v52_2 v52_3 v52_5 (-10)) ∧ (x42 = 0 → ∀ x53 : Int, 0 ≤ x53 → x53 ≤ 1 → ∀ g56 : zF, zFr [] g45 g56 → (¬ x53 = 0 → I95 g56 v52_2 v52_3 v52_5 (-11)) ∧ (x53 = 0 → I95 g56 v52_2 v52_3 v52_5 0)))) ∧
    (∀ (g : zF) (v95_2 : Int) (v95_3 : Int) (v95_5 : Int) (s95_0 : Int), zFr [(2, 3, 0), (2, 3, 1), (20, 21, 1), (41, 42, 1), (21, 22, 1000), (42, 43, 1000), (2, 3, 7)] s0 g → v95_2 ≤ 0 → 0 ≤ v95_3 → v95_3 ≤ 1600 → 0 ≤ v95_5 → v95_5 ≤ 1600 → (-11) ≤ s95_0 → s95_0 ≤ 0 → I95 g v95_2 v95_3 v95_5 s95_0 → (¬ s95_0 = 0 → ∀ g65 : zF, zFr [(2, 3, 7)] g g65 → ∀ x67 : Int, x67 = v95_5 + 1 → I17 g65 v95_2 v95_3 s95_0 x67) ∧ (s95_0 = 0 → I115 g v95_2 v95_3)) ∧
    (∀ (g : zF) (v115_2 : Int) (v115_3 : Int), zFr [(2, 3, 0), (2, 3, 1), (20, 21, 1), (41, 42, 1), (21, 22, 1000), (42, 43, 1000), (2, 3, 7)] s0 g → v115_2 ≤ 0 → 0 ≤ v115_3 → v115_3 ≤ 1600 → I115 g v115_2 v115_3 → (¬ v115_2 = 0 → ∀ b70 : Nat, (b70 : Int) = g (2) 8 → (b70 = 7 ∨ b70 = 28) → ∀ g79 : zF, zFr [(b70 + 13, b70 + 14, 1), (b70 + 14, b70 + 15, 1000)] g g79 → I130 g79 v115_3) ∧ (v115_2 = 0 → I130 g v115_3)) ∧
    (∀ (g : zF) (v130_3 : Int), zFr [(2, 3, 0), (2, 3, 1), (20, 21, 1), (41, 42, 1), (21, 22, 1000), (42, 43, 1000), (2, 3, 7)] s0 g → 0 ≤ v130_3 → v130_3 ≤ 1600 → I130 g v130_3 → ∀ x86 : Int, 0 ≤ x86 → x86 ≤ 1 → ∀ g89 : zF, zFr [] g g89 → (¬ x86 = 0 → ∀ g97 : zF, zFr [(2, 3, 7)] g89 g97 → ∀ x99 : Int, x99 = v130_3 + 1 → I4 g97 (-12) x99) ∧ (x86 = 0 → ∀ x106 : Int, 0 ≤ x106 → x106 ≤ 1 → ∀ g109 : zF, zFr [] g89 g109 → (¬ x106 = 0 → ∀ g117 : zF, zFr [(2, 3, 7)] g109 g117 → ∀ x119 : Int, x119 = v130_3 + 1 → I4 g117 (-13) x119) ∧ (x106 = 0 → Q 1 g109)))
set_option maxRecDepth 100000 in
theorem cj_1297_c1 {s0 : zF} {Q1 Q2 : Int → zF → Prop} (h1 : b_1297_c1 s0 Q1) (h2 : p_1297_c1 s0 Q2) : b_1297_c1 s0 (fun v g => Q1 v g ∧ Q2 v g) := by
  obtain ⟨I4, I17, I52, I95, I115, I130, h1E, h1_0, h1_1, h1_2, h1_3, h1_4, h1_5⟩ := h1
  obtain ⟨J4, J17, J52, J95, J115, J130, h2E, h2_0, h2_1, h2_2, h2_3, h2_4, h2_5⟩ := h2
  refine ⟨fun n g y0 y1 => I4 n g y0 y1 ∧ J4 g y0 y1, fun n g y0 y1 y2 y3 => I17 n g y0 y1 y2 y3 ∧ J17 g y0 y1 y2 y3, fun n g y0 y1 y2 => I52 n g y0 y1 y2 ∧ J52 g y0 y1 y2, fun n g y0 y1 y2 y3 => I95 n g y0 y1 y2 y3 ∧ J95 g y0 y1 y2 y3, fun n g y0 y1 => I115 n g y0 y1 ∧ J115 g y0 y1, fun n g y0 => I130 n g y0 ∧ J130 g y0, ?_, ?_, ?_, ?_, ?_, ?_, ?_⟩
  · have h1 := h1E
    have h2 := h2E
    clear h1E h2E h1_0 h2_0 h1_1 h2_1 h1_2 h2_2 h1_3 h2_3 h1_4 h2_4 h1_5 h2_5
    obtain ⟨m, hi⟩ := h1
    exact ⟨m, hi, h2⟩
  · intro n g v4_2 v4_3 e0 e1 e2 e3 e4 hI
    have h1 := h1_0 n g v4_2 v4_3 e0 e1 e2 e3 e4 hI.1
    have h2 := h2_0 g v4_2 v4_3 e0 e1 e2 e3 e4 hI.2
    clear h1E h2E hI h1_0 h2_0 h1_1 h2_1 h1_2 h2_2 h1_3 h2_3 h1_4 h2_4 h1_5 h2_5
    refine ⟨fun z => ?_, fun z => ?_⟩
    · replace h1 := h1.1 z
      replace h2 := h2.1 z
      exact ⟨h1, h2⟩
    · replace h1 := h1.2 z
      replace h2 := h2.2 z
      obtain ⟨m, hm, hi⟩ := h1
      exact ⟨m, hm, hi, h2⟩
  · intro n g v17_2 v17_3 v17_4 v17_5 e0 e1 e2 e3 e4 e5 e6 e7 hI
    have h1 := h1_1 n g v17_2 v17_3 v17_4 v17_5 e0 e1 e2 e3 e4 e5 e6 e7 hI.1
    have h2 := h2_1 g v17_2 v17_3 v17_4 v17_5 e0 e1 e2 e3 e4 e5 e6 e7 hI.2
    clear h1E h2E hI h1_0 h2_0 h1_1 h2_1 h1_2 h2_2 h1_3 h2_3 h1_4 h2_4 h1_5 h2_5
    refine ⟨fun z => ?_, fun z => ?_⟩
    · replace h1 := h1.1 z
      replace h2 := h2.1 z
      obtain ⟨m, hm, hi⟩ := h1
      exact ⟨m, hm, hi, h2⟩
    · replace h1 := h1.2 z
      replace h2 := h2.2 z
      obtain ⟨P1, c1, h1⟩ := h1
      obtain ⟨P2, c2, h2⟩ := h2
      refine ⟨fun v g => P1 v g ∧ P2 v g, cj_1298_c1 c1 c2, ?_⟩
      intro x8 a3_0 a3_1 g11 a3_2 a3_3
      replace h1 := h1 x8 a3_0 a3_1 g11 a3_2 a3_3.1
      replace h2 := h2 x8 a3_0 a3_1 g11 a3_2 a3_3.2
      refine ⟨fun z => ?_, fun z => ?_⟩
      · replace h1 := h1.1 z
        replace h2 := h2.1 z
        refine ⟨fun z => ?_, fun z => ?_⟩
        · replace h1 := h1.1 z
          replace h2 := h2.1 z
          intro b15 a5_0 a5_1
          replace h1 := h1 b15 a5_0 a5_1
          replace h2 := h2 b15 a5_0 a5_1
          obtain ⟨P1, c1, h1⟩ := h1
          refine ⟨P1, c1, ?_⟩
          intro g24 a5_0 a5_1
          replace h1 := h1 g24 a5_0 a5_1
          replace h2 := h2 g24 a5_0
          obtain ⟨m, hm, hi⟩ := h1
          exact ⟨m, hm, hi, h2⟩
        · replace h1 := h1.2 z
          replace h2 := h2.2 z
          obtain ⟨m, hm, hi⟩ := h1
          exact ⟨m, hm, hi, h2⟩
      · replace h1 := h1.2 z
        replace h2 := h2.2 z
        exact ⟨h1, h2⟩
  · intro n g v52_2 v52_3 v52_5 e0 e1 e2 e3 e4 e5 hI
    have h1 := h1_2 n g v52_2 v52_3 v52_5 e0 e1 e2 e3 e4 e5 hI.1
    have h2 := h2_2 g v52_2 v52_3 v52_5 e0 e1 e2 e3 e4 e5 hI.2
    clear h1E h2E hI h1_0 h2_0 h1_1 h2_1 h1_2 h2_2 h1_3 h2_3 h1_4 h2_4 h1_5 h2_5
    obtain ⟨P1, c1, h1⟩ := h1
    refine ⟨P1, c1, ?_⟩
    intro x31 a2_0 a2_1 g34 a2_2 a2_3
    replace h1 := h1 x31 a2_0 a2_1 g34 a2_2 a2_3
    replace h2 := h2 x31 a2_0 a2_1 g34 a2_2
    refine ⟨fun z => ?_, fun z => ?_⟩
    · replace h1 := h1.1 z
      replace h2 := h2.1 z
      obtain ⟨m, hm, hi⟩ := h1
      exact ⟨m, hm, hi, h2⟩
    · replace h1 := h1.2 z
      replace h2 := h2.2 z
      obtain ⟨P1, c1, h1⟩ := h1
      refine ⟨P1, c1, ?_⟩
      intro x42 a3_0 a3_1 g45 a3_2 a3_3
      replace h1 := h1 x42 a3_0 a3_1 g45 a3_2 a3_3
      replace h2 := h2 x42 a3_0 a3_1 g45 a3_2
      refine ⟨fun z => ?_, fun z => ?_⟩
      · replace h1 := h1.1 z
        replace h2 := h2.1 z
        obtain ⟨m, hm, hi⟩ := h1
        exact ⟨m, hm, hi, h2⟩
      · replace h1 := h1.2 z
        replace h2 := h2.2 z
        obtain ⟨P1, c1, h1⟩ := h1
        refine ⟨P1, c1, ?_⟩
        intro x53 a4_0 a4_1 g56 a4_2 a4_3
        replace h1 := h1 x53 a4_0 a4_1 g56 a4_2 a4_3
        replace h2 := h2 x53 a4_0 a4_1 g56 a4_2
        refine ⟨fun z => ?_, fun z => ?_⟩
        · replace h1 := h1.1 z
          replace h2 := h2.1 z
          obtain ⟨m, hm, hi⟩ := h1
          exact ⟨m, hm, hi, h2⟩
        · replace h1 := h1.2 z
          replace h2 := h2.2 z
          obtain ⟨m, hm, hi⟩ := h1
          exact ⟨m, hm, hi, h2⟩
  · intro n g v95_2 v95_3 v95_5 s95_0 e0 e1 e2 e3 e4 e5 e6 e7 hI
    have h1 := h1_3 n g v95_2 v95_3 v95_5 s95_0 e0 e1 e2 e3 e4 e5 e6 e7 hI.1
    have h2 := h2_3 g v95_2 v95_3 v95_5 s95_0 e0 e1 e2 e3 e4 e5 e6 e7 hI.2
    clear h1E h2E hI h1_0 h2_0 h1_1 h2_1 h1_2 h2_2 h1_3 h2_3 h1_4 h2_4 h1_5 h2_5
    refine ⟨fun z => ?_, fun z => ?_⟩
    · replace h1 := h1.1 z
      replace h2 := h2.1 z
      obtain ⟨P1, c1, h1⟩ := h1
      refine ⟨P1, c1, ?_⟩
      intro g65 a3_0 a3_1 x67 a3_2
      replace h1 := h1 g65 a3_0 a3_1 x67 a3_2
      replace h2 := h2 g65 a3_0 x67 a3_2
      obtain ⟨m, hm, hi⟩ := h1
      exact ⟨m, hm, hi, h2⟩
    · replace h1 := h1.2 z
      replace h2 := h2.2 z
      obtain ⟨m, hm, hi⟩ := h1
      exact ⟨m, hm, hi, h2⟩
  · intro n g v115_2 v115_3 e0 e1 e2 e3 hI
    have h1 := h1_4 n g v115_2 v115_3 e0 e1 e2 e3 hI.1
    have h2 := h2_4 g v115_2 v115_3 e0 e1 e2 e3 hI.2
    clear h1E h2E hI h1_0 h2_0 h1_1 h2_1 h1_2 h2_2 h1_3 h2_3 h1_4 h2_4 h1_5 h2_5
    refine ⟨fun z => ?_, fun z => ?_⟩
    · replace h1 := h1.1 z
      replace h2 := h2.1 z
      intro b70 a3_0 a3_1
      replace h1 := h1 b70 a3_0 a3_1
      replace h2 := h2 b70 a3_0 a3_1
      obtain ⟨P1, c1, h1⟩ := h1
      refine ⟨P1, c1, ?_⟩
      intro g79 a3_0 a3_1
      replace h1 := h1 g79 a3_0 a3_1
      replace h2 := h2 g79 a3_0
      obtain ⟨m, hm, hi⟩ := h1
      exact ⟨m, hm, hi, h2⟩
    · replace h1 := h1.2 z
      replace h2 := h2.2 z
      obtain ⟨m, hm, hi⟩ := h1
      exact ⟨m, hm, hi, h2⟩
  · intro n g v130_3 e0 e1 e2 hI
    have h1 := h1_5 n g v130_3 e0 e1 e2 hI.1
    have h2 := h2_5 g v130_3 e0 e1 e2 hI.2
    clear h1E h2E hI h1_0 h2_0 h1_1 h2_1 h1_2 h2_2 h1_3 h2_3 h1_4 h2_4 h1_5 h2_5
    obtain ⟨P1, c1, h1⟩ := h1
    refine ⟨P1, c1, ?_⟩
    intro x86 a2_0 a2_1 g89 a2_2 a2_3
    replace h1 := h1 x86 a2_0 a2_1 g89 a2_2 a2_3
    replace h2 := h2 x86 a2_0 a2_1 g89 a2_2
    refine ⟨fun z => ?_, fun z => ?_⟩
    · replace h1 := h1.1 z
      replace h2 := h2.1 z
      obtain ⟨P1, c1, h1⟩ := h1
      refine ⟨P1, c1, ?_⟩
      intro g97 a3_0 a3_1 x99 a3_2
      replace h1 := h1 g97 a3_0 a3_1 x99 a3_2
      replace h2 := h2 g97 a3_0 x99 a3_2
      obtain ⟨m, hm, hi⟩ := h1
      exact ⟨m, hm, hi, h2⟩
    · replace h1 := h1.2 z
      replace h2 := h2.2 z
      obtain ⟨P1, c1, h1⟩ := h1
      refine ⟨P1, c1, ?_⟩
      intro x106 a3_0 a3_1 g109 a3_2 a3_3
      replace h1 := h1 x106 a3_0 a3_1 g109 a3_2 a3_3
      replace h2 := h2 x106 a3_0 a3_1 g109 a3_2
      refine ⟨fun z => ?_, fun z => ?_⟩
      · replace h1 := h1.1 z
        replace h2 := h2.1 z
        obtain ⟨P1, c1, h1⟩ := h1
        refine ⟨P1, c1, ?_⟩
        intro g117 a4_0 a4_1 x119 a4_2
        replace h1 := h1 g117 a4_0 a4_1 x119 a4_2
        replace h2 := h2 g117 a4_0 x119 a4_2
        obtain ⟨m, hm, hi⟩ := h1
        exact ⟨m, hm, hi, h2⟩
      · replace h1 := h1.2 z
        replace h2 := h2.2 z
        exact ⟨h1, h2⟩
set_option maxRecDepth 100000 in
def p_1298_c0 (s0 : zF) (Q : Int → zF → Prop) : Prop :=
  ∃ (I73 : zF → Int → Prop) (I85 : zF → Int → Prop) (I99 : zF → Int → Int → Prop),
    (∀ x192 : Int, x192 = s0 (2) 7 → 0 ≤ x192 → x192 ≤ 1600 → ∀ x199 : Int, x199 = s0 (4) x192.toNat → 0 ≤ x199 → x199 ≤ 5 → (¬ x199 = 4 → ∀ x206 : Int, (-1) ≤ x206 → x206 ≤ 26 → ∀ g209 : zF, zFr [] s0 g209 → (¬ x206 = (-1) → (x206 < 7 → ∀ b213 : Nat, (b213 : Int) = g209 (2) 8 → (b213 = 7 ∨ b213 = 28) → ∀ x217 : Int, x217 = (-1) - x206 → ∀ g224 : zF, zFr [(b213 + 13, b213 + 14, 1), (b213 + 14, b213 + 15, 1000)] g209 g224 → ∀ g231 : zF, zFr [(2, 3, 7)] g224 g231 → Q 1 g231) ∧ (7 ≤ x206 → I73 g209 x206)) ∧ (x206 = (-1) → I73 g209 x206)) ∧ (x199 = 4 → ∀ b233 : Nat, (b233 : Int) = s0 (2) 8 → (b233 = 7 ∨ b233 = 28) → ∀ x240 : Int, x240 = s0 (5) x192.toNat → ∀ g246 : zF, zFr [(b233 + 13, b233 + 14, 1), (b233 + 14, b233 + 15, 1000)] s0 g246 → ∀ g253 : zF, zFr [(2, 3, 7)] g246 g253 → Q 1 g253)) ∧
    (∀ (g : zF) (v73_2 : Int), zFr [(2, 3, 0), (2, 3, 1), (20, 21, 1), (41, 42, 1), (21, 22, 1000), (42, 43, 1000), (2, 3, 7)] s0 g → (-1) ≤ v73_2 → v73_2 ≤ 26 → I73 g v73_2 → (¬ v73_2 = 25 → (¬ v73_2 = 26 → I99 g v73_2 0) ∧ (v73_2 = 26 → I85 g v73_2)) ∧ (v73_2 = 25 → I85 g v73_2)) ∧
    (∀ (g : zF) (v85_2 : Int), zFr [(2, 3, 0), (2, 3, 1), (20, 21, 1), (41, 42, 1), (21, 22, 1000), (42, 43, 1000), (2, 3, 7)] s0 g → 25 ≤ v85_2 → v85_2 ≤ 26 → I85 g v85_2 → ∀ g8 : zF, zFr [(2, 3, 7)] g g8 → I99 g8 v85_2 1) ∧
    (∀ (g : zF) (v99_2 : Int) (v99_3 : Int), zFr [(2, 3, 0), (2, 3, 1), (20, 21, 1), (41, 42, 1), (21, 22, 1000), (42, 43, 1000), (2, 3, 7)] s0 g → (-1) ≤ v99_2 → v99_2 ≤ 26 → 0 ≤ v99_3 → v99_3 ≤ 1 → I99 g v99_2 v99_3 → ∀ x15 : Int, 0 ≤ x15 → x15 ≤ 1 → ∀ g18 : zF, zFr [] g g18 → (¬ x15 = 0 → ∀ g26 : zF, zFr [(2, 3, 7)] g18 g26 → ∃ P30 : Int → zF → Prop, p_1297_c1 g26 P30 ∧ ∀ x33 : Int, 0 ≤ x33 → x33 ≤ 1 → ∀ g36 : zF, zFr [(2, 3, 0), (2, 3, 1), (20, 21, 1), (41, 42, 1), (21, 22, 1000), (42, 43, 1000), (2, 3, 7)] g26 g36 → P30 x33 g36 → (¬ x33 = 0 → (¬ v99_3 = 0 → ∀ x45 : Int, 0 ≤ x45 → x45 ≤ 1 → ∀ g48 : zF, zFr [] g36 g48 → (¬ x45 = 0 → ∀ g56 : zF, zFr [(2, 3, 7)] g48 g56 → ∃ P60 : Int → zF → Prop, p_1297_c1 g56 P60 ∧ ∀ x63 : Int, 0 ≤ x63 → x63 ≤ 1 → ∀ g66 : zF, zFr [(2, 3, 0), (2, 3, 1), (20, 21, 1), (41, 42, 1), (21, 22, 1000), (42, 43, 1000), (2, 3, 7)] g56 g66 → P60 x63 g66 → (¬ x63 = 0 → ∀ b69 : Nat, (b69 : Int) = g66 (2) 8 → (b69 = 7 ∨ b69 = 28) → (¬ v99_2 = 25 → ∀ g79 : zF, zFr [(b69 + 13, b69 + 14, 1), (b69 + 14, b69 + 15, 1000)] g66 g79 → ∀ x86 : Int, 0 ≤ x86 → x86 ≤ 1 → ∀ g89 : zF, zFr [] g79 g89 → (¬ x86 = 0 → ∀ g97 : zF, zFr [(2, 3, 7)] g89 g97 → Q 1 g97) ∧ (x86 = 0 → ∀ x104 : Int, 0 ≤ x104 → x104 ≤ 0 → ∀ g107 : zF, zFr [(2, 3, 0), (2, 3, 1)] g89 g107 → Q x104 g107)) ∧ (v99_2 = 25 → ∀ g114 : zF, zFr [(b69 + 13, b69 + 14, 1), (b69 + 14, b69 + 15, 1000)] g66 g114 → ∀ x121 : Int, 0 ≤ x121 → x121 ≤ 1 → ∀ g124 : zF, zFr [] g114 g124 → (¬ x121 = 0 → ∀ g132 : zF, zFr [(2, 3, 7)] g124 g132 → Q 1 g132) ∧ (x121 = 0 → ∀ x139 : Int, 0 ≤ x139 → x139 ≤ 0 → ∀ g142 : zF, zFr [(2, 3, 0), (2, 3, 1)] g124 g142 → Q x139 g142))) ∧ (x63 = 0 → Q 0 g66)) ∧ (x45 = 0 → ∀ x149 : Int, 0 ≤ x149 → x149 ≤ 0 → ∀ g152 : zF, zFr [(2, 3, 0), (2, 3, 1)] g48 g152 → Q x149 g152)) ∧ (v99_3 = 0 → ∀ x159 : Int, 0 ≤ x159 → x159 ≤ 1 → ∀ g162 : zF, zFr [] g36 g162 → (¬ x159 = 0 → ∀ g170 : zF, zFr [(2, 3, 7)] g162 g170 → Q 1 g170) ∧ (x159 = 0 → ∀ x177 : Int, 0 ≤ x177 → x177 ≤ 0 → ∀ g180 : zF, zFr [(2, 3, 0), (2, 3, 1)] g162 g180 → Q x177 g180))) ∧ (x33 = 0 → Q 0 g36)) ∧ (x15 = 0 → ∀ x187 : Int, 0 ≤ x187 → x187 ≤ 0 → ∀ g190 : zF, zFr [(2, 3, 0), (2, 3, 1)] g18 g190 → Q x187 g190))
set_option maxRecDepth 100000 in
theorem cj_1298_c0 {s0 : zF} {Q1 Q2 : Int → zF → Prop} (h1 : b_1298_c0 s0 Q1) (h2 : p_1298_c0 s0 Q2) : b_1298_c0 s0 (fun v g => Q1 v g ∧ Q2 v g) := by
  obtain ⟨I73, I85, I99, h1E, h1_0, h1_1, h1_2⟩ := h1
  obtain ⟨J73, J85, J99, h2E, h2_0, h2_1, h2_2⟩ := h2
  refine ⟨fun n g y0 => I73 n g y0 ∧ J73 g y0, fun n g y0 => I85 n g y0 ∧ J85 g y0, fun n g y0 y1 => I99 n g y0 y1 ∧ J99 g y0 y1, ?_, ?_, ?_, ?_⟩
  · have h1 := h1E
    have h2 := h2E
    clear h1E h2E h1_0 h2_0 h1_1 h2_1 h1_2 h2_2
    intro x192 a2_0 a2_1 a2_2 x199 a2_3 a2_4 a2_5
    replace h1 := h1 x192 a2_0 a2_1 a2_2 x199 a2_3 a2_4 a2_5
    replace h2 := h2 x192 a2_0 a2_1 a2_2 x199 a2_3 a2_4 a2_5
    refine ⟨fun z => ?_, fun z => ?_⟩
    · replace h1 := h1.1 z
      replace h2 := h2.1 z
      obtain ⟨P1, c1, h1⟩ := h1
      refine ⟨P1, c1, ?_⟩
      intro x206 a3_0 a3_1 g209 a3_2 a3_3
      replace h1 := h1 x206 a3_0 a3_1 g209 a3_2 a3_3
      replace h2 := h2 x206 a3_0 a3_1 g209 a3_2
      refine ⟨fun z => ?_, fun z => ?_⟩
      · replace h1 := h1.1 z
        replace h2 := h2.1 z
        refine ⟨fun z => ?_, fun z => ?_⟩
        · replace h1 := h1.1 z
          replace h2 := h2.1 z
          intro b213 a5_0 a5_1 x217 a5_2
          replace h1 := h1 b213 a5_0 a5_1 x217 a5_2
          replace h2 := h2 b213 a5_0 a5_1 x217 a5_2
          obtain ⟨P1, c1, h1⟩ := h1
          refine ⟨P1, c1, ?_⟩
          intro g224 a5_0 a5_1
          replace h1 := h1 g224 a5_0 a5_1
          replace h2 := h2 g224 a5_0
          obtain ⟨P1, c1, h1⟩ := h1
          refine ⟨P1, c1, ?_⟩
          intro g231 a5_0 a5_1
          replace h1 := h1 g231 a5_0 a5_1
          replace h2 := h2 g231 a5_0
          exact ⟨h1, h2⟩
        · replace h1 := h1.2 z
          replace h2 := h2.2 z
          obtain ⟨m, hi⟩ := h1
          exact ⟨m, hi, h2⟩
      · replace h1 := h1.2 z
        replace h2 := h2.2 z
        obtain ⟨m, hi⟩ := h1
        exact ⟨m, hi, h2⟩
    · replace h1 := h1.2 z
      replace h2 := h2.2 z
      intro b233 a3_0 a3_1 x240 a3_2
      replace h1 := h1 b233 a3_0 a3_1 x240 a3_2
      replace h2 := h2 b233 a3_0 a3_1 x240 a3_2
      obtain ⟨P1, c1, h1⟩ := h1
      refine ⟨P1, c1, ?_⟩
      intro g246 a3_0 a3_1
      replace h1 := h1 g246 a3_0 a3_1
      replace h2 := h2 g246 a3_0
      obtain ⟨P1, c1, h1⟩ := h1
      refine ⟨P1, c1, ?_⟩
      intro g253 a3_0 a3_1
      replace h1 := h1 g253 a3_0 a3_1
      replace h2 := h2 g253 a3_0
      exact ⟨h1, h2⟩
  · intro n g v73_2 e0 e1 e2 hI
    have h1 := h1_0 n g v73_2 e0 e1 e2 hI.1
    have h2 := h2_0 g v73_2 e0 e1 e2 hI.2
    clear h1E h2E hI h1_0 h2_0 h1_1 h2_1 h1_2 h2_2
    refine ⟨fun z => ?_, fun z => ?_⟩
    · replace h1 := h1.1 z
      replace h2 := h2.1 z
      refine ⟨fun z => ?_, fun z => ?_⟩
      · replace h1 := h1.1 z
        replace h2 := h2.1 z
        obtain ⟨m, hm, hi⟩ := h1
        exact ⟨m, hm, hi, h2⟩
      · replace h1 := h1.2 z
        replace h2 := h2.2 z
        obtain ⟨m, hm, hi⟩ := h1
        exact ⟨m, hm, hi, h2⟩
    · replace h1 := h1.2 z
      replace h2 := h2.2 z
      obtain ⟨m, hm, hi⟩ := h1
      exact ⟨m, hm, hi, h2⟩
  · intro n g v85_2 e0 e1 e2 hI
    have h1 := h1_1 n g v85_2 e0 e1 e2 hI.1
    have h2 := h2_1 g v85_2 e0 e1 e2 hI.2
    clear h1E h2E hI h1_0 h2_0 h1_1 h2_1 h1_2 h2_2
    obtain ⟨P1, c1, h1⟩ := h1
    refine ⟨P1, c1, ?_⟩
    intro g8 a2_0 a2_1
    replace h1 := h1 g8 a2_0 a2_1
    replace h2 := h2 g8 a2_0
    obtain ⟨m, hm, hi⟩ := h1
    exact ⟨m, hm, hi, h2⟩
  · intro n g v99_2 v99_3 e0 e1 e2 e3 e4 hI
    have h1 := h1_2 n g v99_2 v99_3 e0 e1 e2 e3 e4 hI.1
    have h2 := h2_2 g v99_2 v99_3 e0 e1 e2 e3 e4 hI.2
    clear h1E h2E hI h1_0 h2_0 h1_1 h2_1 h1_2 h2_2
    obtain ⟨P1, c1, h1⟩ := h1
    refine ⟨P1, c1, ?_⟩
    intro x15 a2_0 a2_1 g18 a2_2 a2_3
    replace h1 := h1 x15 a2_0 a2_1 g18 a2_2 a2_3
    replace h2 := h2 x15 a2_0 a2_1 g18 a2_2
    refine ⟨fun z => ?_, fun z => ?_⟩
    · replace h1 := h1.1 z
      replace h2 := h2.1 z
      obtain ⟨P1, c1, h1⟩ := h1
      refine ⟨P1, c1, ?_⟩
      intro g26 a3_0 a3_1
      replace h1 := h1 g26 a3_0 a3_1
      replace h2 := h2 g26 a3_0
      obtain ⟨P1, c1, h1⟩ := h1
      obtain ⟨P2, c2, h2⟩ := h2
      refine ⟨fun v g => P1 v g ∧ P2 v g, cj_1297_c1 c1 c2, ?_⟩
      intro x33 a3_0 a3_1 g36 a3_2 a3_3
      replace h1 := h1 x33 a3_0 a3_1 g36 a3_2 a3_3.1
      replace h2 := h2 x33 a3_0 a3_1 g36 a3_2 a3_3.2
      refine ⟨fun z => ?_, fun z => ?_⟩
      · replace h1 := h1.1 z
        replace h2 := h2.1 z
        refine ⟨fun z => ?_, fun z => ?_⟩
        · replace h1 := h1.1 z
          replace h2 := h2.1 z
          obtain ⟨P1, c1, h1⟩ := h1
          refine ⟨P1, c1, ?_⟩
          intro x45 a5_0 a5_1 g48 a5_2 a5_3
          replace h1 := h1 x45 a5_0 a5_1 g48 a5_2 a5_3
          replace h2 := h2 x45 a5_0 a5_1 g48 a5_2
          refine ⟨fun z => ?_, fun z => ?_⟩
          · replace h1 := h1.1 z
            replace h2 := h2.1 z
            obtain ⟨P1, c1, h1⟩ := h1
            refine ⟨P1, c1, ?_⟩
            intro g56 a6_0 a6_1
            replace h1 := h1 g56 a6_0 a6_1
            replace h2 := h2 g56 a6_0
            obtain ⟨P1, c1, h1⟩ := h1
            obtain ⟨P2, c2, h2⟩ := h2
            refine ⟨fun v g => P1 v g ∧ P2 v g, cj_1297_c1 c1 c2, ?_⟩
            intro x63 a6_0 a6_1 g66 a6_2 a6_3
            replace h1 := h1 x63 a6_0 a6_1 g66 a6_2 a6_3.1
            replace h2 := h2 x63 a6_0 a6_1 g66 a6_2 a6_3.2
            refine ⟨fun z => ?_, fun z => ?_⟩
            · replace h1 := h1.1 z
              replace h2 := h2.1 z
              intro b69 a7_0 a7_1
              replace h1 := h1 b69 a7_0 a7_1
              replace h2 := h2 b69 a7_0 a7_1
              refine ⟨fun z => ?_, fun z => ?_⟩
              · replace h1 := h1.1 z
                replace h2 := h2.1 z
                obtain ⟨P1, c1, h1⟩ := h1
                refine ⟨P1, c1, ?_⟩
                intro g79 a8_0 a8_1
                replace h1 := h1 g79 a8_0 a8_1
                replace h2 := h2 g79 a8_0
                obtain ⟨P1, c1, h1⟩ := h1
                refine ⟨P1, c1, ?_⟩
                intro x86 a8_0 a8_1 g89 a8_2 a8_3
                replace h1 := h1 x86 a8_0 a8_1 g89 a8_2 a8_3
                replace h2 := h2 x86 a8_0 a8_1 g89 a8_2
                refine ⟨fun z => ?_, fun z => ?_⟩
                · replace h1 := h1.1 z
                  replace h2 := h2.1 z
                  obtain ⟨P1, c1, h1⟩ := h1
                  refine ⟨P1, c1, ?_⟩
                  intro g97 a9_0 a9_1
                  replace h1 := h1 g97 a9_0 a9_1
                  replace h2 := h2 g97 a9_0
                  exact ⟨h1, h2⟩
                · replace h1 := h1.2 z
                  replace h2 := h2.2 z
                  obtain ⟨P1, c1, h1⟩ := h1
                  refine ⟨P1, c1, ?_⟩
                  intro x104 a9_0 a9_1 g107 a9_2 a9_3
                  replace h1 := h1 x104 a9_0 a9_1 g107 a9_2 a9_3
                  replace h2 := h2 x104 a9_0 a9_1 g107 a9_2
                  exact ⟨h1, h2⟩
              · replace h1 := h1.2 z
                replace h2 := h2.2 z
                obtain ⟨P1, c1, h1⟩ := h1
                refine ⟨P1, c1, ?_⟩
                intro g114 a8_0 a8_1
                replace h1 := h1 g114 a8_0 a8_1
                replace h2 := h2 g114 a8_0
                obtain ⟨P1, c1, h1⟩ := h1
                refine ⟨P1, c1, ?_⟩
                intro x121 a8_0 a8_1 g124 a8_2 a8_3
                replace h1 := h1 x121 a8_0 a8_1 g124 a8_2 a8_3
                replace h2 := h2 x121 a8_0 a8_1 g124 a8_2
                refine ⟨fun z => ?_, fun z => ?_⟩
                · replace h1 := h1.1 z
                  replace h2 := h2.1 z
                  obtain ⟨P1, c1, h1⟩ := h1
                  refine ⟨P1, c1, ?_⟩
                  intro g132 a9_0 a9_1
                  replace h1 := h1 g132 a9_0 a9_1
                  replace h2 := h2 g132 a9_0
                  exact ⟨h1, h2⟩
                · replace h1 := h1.2 z
                  replace h2 := h2.2 z
                  obtain ⟨P1, c1, h1⟩ := h1
                  refine ⟨P1, c1, ?_⟩
                  intro x139 a9_0 a9_1 g142 a9_2 a9_3
                  replace h1 := h1 x139 a9_0 a9_1 g142 a9_2 a9_3
                  replace h2 := h2 x139 a9_0 a9_1 g142 a9_2
                  exact ⟨h1, h2⟩
            · replace h1 := h1.2 z
              replace h2 := h2.2 z
              exact ⟨h1, h2⟩
          · replace h1 := h1.2 z
            replace h2 := h2.2 z
            obtain ⟨P1, c1, h1⟩ := h1
            refine ⟨P1, c1, ?_⟩
            intro x149 a6_0 a6_1 g152 a6_2 a6_3
            replace h1 := h1 x149 a6_0 a6_1 g152 a6_2 a6_3
            replace h2 := h2 x149 a6_0 a6_1 g152 a6_2
            exact ⟨h1, h2⟩
        · replace h1 := h1.2 z
          replace h2 := h2.2 z
          obtain ⟨P1, c1, h1⟩ := h1
          refine ⟨P1, c1, ?_⟩
          intro x159 a5_0 a5_1 g162 a5_2 a5_3
          replace h1 := h1 x159 a5_0 a5_1 g162 a5_2 a5_3
          replace h2 := h2 x159 a5_0 a5_1 g162 a5_2
          refine ⟨fun z => ?_, fun z => ?_⟩
          · replace h1 := h1.1 z
            replace h2 := h2.1 z
            obtain ⟨P1, c1, h1⟩ := h1
            refine ⟨P1, c1, ?_⟩
            intro g170 a6_0 a6_1
            replace h1 := h1 g170 a6_0 a6_1
            replace h2 := h2 g170 a6_0
            exact ⟨h1, h2⟩
          · replace h1 := h1.2 z
            replace h2 := h2.2 z
            obtain ⟨P1, c1, h1⟩ := h1
            refine ⟨P1, c1, ?_⟩
            intro x177 a6_0 a6_1 g180 a6_2 a6_3
            replace h1 := h1 x177 a6_0 a6_1 g180 a6_2 a6_3
            replace h2 := h2 x177 a6_0 a6_1 g180 a6_2
            exact ⟨h1, h2⟩
      · replace h1 := h1.2 z
        replace h2 := h2.2 z
        exact ⟨h1, h2⟩
    · replace h1 := h1.2 z
      replace h2 := h2.2 z
      obtain ⟨P1, c1, h1⟩ := h1
      refine ⟨P1, c1, ?_⟩
      intro x187 a3_0 a3_1 g190 a3_2 a3_3
      replace h1 := h1 x187 a3_0 a3_1 g190 a3_2 a3_3
      replace h2 := h2 x187 a3_0 a3_1 g190 a3_2
      exact ⟨h1, h2⟩
set_option maxRecDepth 100000 in
def p_1297_c0 (s0 : zF) (Q : Int → zF → Prop) : Prop :=
  ∃ (I4 : zF → Int → Int → Prop) (I17 : zF → Int → Int → Int → Int → Prop) (I52 : zF → Int → Int → Int → Prop) (I95 : zF → Int → Int → Int → Int → Prop) (I115 : zF → Int → Int → Prop) (I130 : zF → Int → Prop),
    (I4 s0 0 0) ∧
    (∀ (g : zF) (v4_2 : Int) (v4_3 : Int), zFr [(2, 3, 0), (2, 3, 1), (20, 21, 1), (41, 42, 1), (21, 22, 1000), (42, 43, 1000), (2, 3, 7)] s0 g → (-13) ≤ v4_2 → v4_2 ≤ 0 → 0 ≤ v4_3 → v4_3 ≤ 1601 → I4 g v4_2 v4_3 → (1600 < v4_3 → Q 1 g) ∧ (v4_3 ≤ 1600 → I17 g v4_2 v4_3 0 0)) ∧
    (∀ (g : zF) (v17_2 : Int) (v17_3 : Int) (v17_4 : Int) (v17_5 : Int), zFr [(2, 3, 0), (2, 3, 1), (20, 21, 1), (41, 42, 1), (21, 22, 1000), (42, 43, 1000), (2, 3, 7)] s0 g → v17_2 ≤ 0 → 0 ≤ v17_3 → v17_3 ≤ 1600 → (-11) ≤ v17_4 → v17_4 ≤ 0 → 0 ≤ v17_5 → v17_5 ≤ 1601 → I17 g v17_2 v17_3 v17_4 v17_5 → (1600 < v17_5 → I115 g v17_2 v17_3) ∧ (v17_5 ≤ 1600 → ∃ P5 : Int → zF → Prop, p_1298_c0 g P5 ∧ ∀ x8 : Int, 0 ≤ x8 → x8 ≤ 1 → ∀ g11 : zF, zFr [(2, 3, 0), (2, 3, 1), (20, 21, 1), (41, 42, 1), (21, 22, 1000), (42, 43, 1000), (2, 3, 7)] g g11 → P5 x8 g11 → (¬ x8 = 0 → (¬ v17_4 = 0 → ∀ b15 : Nat, (b15 : Int) = g11 (2) 8 → (b15 = 7 ∨ b15 = 28) → ∀ g24 : zF, zFr [(b15 + 13, b15 + 14, 1), (b15 + 14, b15 + 15, 1000)] g11 g24 → I52 g24 v17_2 v17_3 v17_5) ∧ (v17_4 = 0 → I52 g11 v17_2 v17_3 v17_5)) ∧ (x8 = 0 → Q 0 g11))) ∧
    (∀ (g : zF) (v52_2 : Int) (v52_3 : Int) (v52_5 : Int), zFr [(2, 3, 0), (2, 3, 1), (20, 21, 1), (41, 42, 1), (21, 22, 1000), (42, 43, 1000), (2, 3, 7)] s0 g → v52_2 ≤ 0 → 0 ≤ v52_3 → v52_3 ≤ 1600 → 0 ≤ v52_5 → v52_5 ≤ 1600 → I52 g v52_2 v52_3 v52_5 → ∀ x31 : Int, 0 ≤ x31 → x31 ≤ 1 → ∀ g34 : zF, zFr [] g g34 → (¬ x31 = 0 → I95 g34 v52_2 v52_3 v52_5 (-9)) ∧ (x31 = 0 → ∀ x42 : Int, 0 ≤ x42 → x42 ≤ 1 → ∀ g45 : zF, zFr [] g34 g45 → (¬ x42 = 0 → I95 g45 v52_2 v52_3 v52_5 (-10)) ∧ (x42 = 0 → ∀ x53 : Int, 0 ≤ x53 → x53 ≤ 1 → ∀ g56 : zF, zFr [] g45 g56 → (¬ x53 = 0 → I95 g56 v52_2 v52_3 v52_5 (-11)) ∧ (x53 = 0 → I95 g56 v52_2 v52_3 v52_5 0)))) ∧
    (∀ (g : zF) (v95_2 : Int) (v95_3 : Int) (v95_5 : Int) (s95_0 : Int), zFr [(2, 3, 0), (2, 3, 1), (20, 21, 1), (41, 42, 1), (21, 22, 1000), (42, 43, 1000), (2, 3, 7)] s0 g → v95_2 ≤ 0 → 0 ≤ v95_3 → v95_3 ≤ 1600 → 0 ≤ v95_5 → v95_5 ≤ 1600 → (-11) ≤ s95_0 → s95_0 ≤ 0 → I95 g v95_2 v95_3 v95_5 s95_0 → (¬ s95_0 = 0 → ∀ g65 : zF, zFr [(2, 3, 7)] g g65 → ∀ x67 : Int, x67 = v95_5 + 1 → I17 g65 v95_2 v95_3 s95_0 x67) ∧ (s95_0 = 0 → I115 g v95_2 v95_3)) ∧
    (∀ (g : zF) (v115_2 : Int) (v115_3 : Int), zFr [(2, 3, 0), (2, 3, 1), (20, 21, 1), (41, 42, 1), (21, 22, 1000), (42, 43, 1000), (2, 3, 7)] s0 g → v115_2 ≤ 0 → 0 ≤ v115_3 → v115_3 ≤ 1600 → I115 g v115_2 v115_3 → (¬ v115_2 = 0 → ∀ b70 : Nat, (b70 : Int) = g (2) 8 → (b70 = 7 ∨ b70 = 28) → ∀ g79 : zF, zFr [(b70 + 13, b70 + 14, 1), (b70 + 14, b70 + 15, 1000)] g g79 → I130 g79 v115_3) ∧ (v115_2 = 0 → I130 g v115_3)) ∧
    (∀ (g : zF) (v130_3 : Int), zFr [(2, 3, 0), (2, 3, 1), (20, 21, 1), (41, 42, 1), (21, 22, 1000), (42, 43, 1000), (2, 3, 7)] s0 g → 0 ≤ v130_3 → v130_3 ≤ 1600 → I130 g v130_3 → ∀ x86 : Int, 0 ≤ x86 → x86 ≤ 1 → ∀ g89 : zF, zFr [] g g89 → (¬ x86 = 0 → ∀ g97 : zF, zFr [(2, 3, 7)] g89 g97 → ∀ x99 : Int, x99 = v130_3 + 1 → I4 g97 (-12) x99) ∧ (x86 = 0 → ∀ x106 : Int, 0 ≤ x106 → x106 ≤ 1 → ∀ g109 : zF, zFr [] g89 g109 → (¬ x106 = 0 → ∀ g117 : zF, zFr [(2, 3, 7)] g109 g117 → ∀ x119 : Int, x119 = v130_3 + 1 → I4 g117 (-13) x119) ∧ (x106 = 0 → Q 1 g109)))
set_option maxRecDepth 100000 in
theorem cj_1297_c0 {s0 : zF} {Q1 Q2 : Int → zF → Prop} (h1 : b_1297_c0 s0 Q1) (h2 : p_1297_c0 s0 Q2) : b_1297_c0 s0 (fun v g => Q1 v g ∧ Q2 v g) := by
  obtain ⟨I4, I17, I52, I95, I115, I130, h1E, h1_0, h1_1, h1_2, h1_3, h1_4, h1_5⟩ := h1
  obtain ⟨J4, J17, J52, J95, J115, J130, h2E, h2_0, h2_1, h2_2, h2_3, h2_4, h2_5⟩ := h2
  refine ⟨fun n g y0 y1 => I4 n g y0 y1 ∧ J4 g y0 y1, fun n g y0 y1 y2 y3 => I17 n g y0 y1 y2 y3 ∧ J17 g y0 y1 y2 y3, fun n g y0 y1 y2 => I52 n g y0 y1 y2 ∧ J52 g y0 y1 y2, fun n g y0 y1 y2 y3 => I95 n g y0 y1 y2 y3 ∧ J95 g y0 y1 y2 y3, fun n g y0 y1 => I115 n g y0 y1 ∧ J115 g y0 y1, fun n g y0 => I130 n g y0 ∧ J130 g y0, ?_, ?_, ?_, ?_, ?_, ?_, ?_⟩
  · have h1 := h1E
    have h2 := h2E
    clear h1E h2E h1_0 h2_0 h1_1 h2_1 h1_2 h2_2 h1_3 h2_3 h1_4 h2_4 h1_5 h2_5
    obtain ⟨m, hi⟩ := h1
    exact ⟨m, hi, h2⟩
  · intro n g v4_2 v4_3 e0 e1 e2 e3 e4 hI
    have h1 := h1_0 n g v4_2 v4_3 e0 e1 e2 e3 e4 hI.1
    have h2 := h2_0 g v4_2 v4_3 e0 e1 e2 e3 e4 hI.2
    clear h1E h2E hI h1_0 h2_0 h1_1 h2_1 h1_2 h2_2 h1_3 h2_3 h1_4 h2_4 h1_5 h2_5
    refine ⟨fun z => ?_, fun z => ?_⟩
    · replace h1 := h1.1 z
      replace h2 := h2.1 z
      exact ⟨h1, h2⟩
    · replace h1 := h1.2 z
      replace h2 := h2.2 z
      obtain ⟨m, hm, hi⟩ := h1
      exact ⟨m, hm, hi, h2⟩
  · intro n g v17_2 v17_3 v17_4 v17_5 e0 e1 e2 e3 e4 e5 e6 e7 hI
    have h1 := h1_1 n g v17_2 v17_3 v17_4 v17_5 e0 e1 e2 e3 e4 e5 e6 e7 hI.1
    have h2 := h2_1 g v17_2 v17_3 v17_4 v17_5 e0 e1 e2 e3 e4 e5 e6 e7 hI.2
    clear h1E h2E hI h1_0 h2_0 h1_1 h2_1 h1_2 h2_2 h1_3 h2_3 h1_4 h2_4 h1_5 h2_5
    refine ⟨fun z => ?_, fun z => ?_⟩
    · replace h1 := h1.1 z
      replace h2 := h2.1 z
      obtain ⟨m, hm, hi⟩ := h1
      exact ⟨m, hm, hi, h2⟩
    · replace h1 := h1.2 z
      replace h2 := h2.2 z
      obtain ⟨P1, c1, h1⟩ := h1
      obtain ⟨P2, c2, h2⟩ := h2
      refine ⟨fun v g => P1 v g ∧ P2 v g, cj_1298_c0 c1 c2, ?_⟩
      intro x8 a3_0 a3_1 g11 a3_2 a3_3
      replace h1 := h1 x8 a3_0 a3_1 g11 a3_2 a3_3.1
      replace h2 := h2 x8 a3_0 a3_1 g11 a3_2 a3_3.2
      refine ⟨fun z => ?_, fun z => ?_⟩
      · replace h1 := h1.1 z
        replace h2 := h2.1 z
        refine ⟨fun z => ?_, fun z => ?_⟩
        · replace h1 := h1.1 z
          replace h2 := h2.1 z
          intro b15 a5_0 a5_1
          replace h1 := h1 b15 a5_0 a5_1
          replace h2 := h2 b15 a5_0 a5_1
          obtain ⟨P1, c1, h1⟩ := h1
          refine ⟨P1, c1, ?_⟩
          intro g24 a5_0 a5_1
          replace h1 := h1 g24 a5_0 a5_1
          replace h2 := h2 g24 a5_0
          obtain ⟨m, hm, hi⟩ := h1
          exact ⟨m, hm, hi, h2⟩
        · replace h1 := h1.2 z
          replace h2 := h2.2 z
          obtain ⟨m, hm, hi⟩ := h1
          exact ⟨m, hm, hi, h2⟩
      · replace h1 := h1.2 z
        replace h2 := h2.2 z
        exact ⟨h1, h2⟩
  · intro n g v52_2 v52_3 v52_5 e0 e1 e2 e3 e4 e5 hI
    have h1 := h1_2 n g v52_2 v52_3 v52_5 e0 e1 e2 e3 e4 e5 hI.1
    have h2 := h2_2 g v52_2 v52_3 v52_5 e0 e1 e2 e3 e4 e5 hI.2
    clear h1E h2E hI h1_0 h2_0 h1_1 h2_1 h1_2 h2_2 h1_3 h2_3 h1_4 h2_4 h1_5 h2_5
    obtain ⟨P1, c1, h1⟩ := h1
    refine ⟨P1, c1, ?_⟩
    intro x31 a2_0 a2_1 g34 a2_2 a2_3
    replace h1 := h1 x31 a2_0 a2_1 g34 a2_2 a2_3
    replace h2 := h2 x31 a2_0 a2_1 g34 a2_2
    refine ⟨fun z => ?_, fun z => ?_⟩
    · replace h1 := h1.1 z
      replace h2 := h2.1 z
      obtain ⟨m, hm, hi⟩ := h1
      exact ⟨m, hm, hi, h2⟩
    · replace h1 := h1.2 z
      replace h2 := h2.2 z
      obtain ⟨P1, c1, h1⟩ := h1
      refine ⟨P1, c1, ?_⟩
      intro x42 a3_0 a3_1 g45 a3_2 a3_3
      replace h1 := h1 x42 a3_0 a3_1 g45 a3_2 a3_3
      replace h2 := h2 x42 a3_0 a3_1 g45 a3_2
      refine ⟨fun z => ?_, fun z => ?_⟩
      · replace h1 := h1.1 z
        replace h2 := h2.1 z
        obtain ⟨m, hm, hi⟩ := h1
        exact ⟨m, hm, hi, h2⟩
      · replace h1 := h1.2 z
        replace h2 := h2.2 z
        obtain ⟨P1, c1, h1⟩ := h1
        refine ⟨P1, c1, ?_⟩
        intro x53 a4_0 a4_1 g56 a4_2 a4_3
        replace h1 := h1 x53 a4_0 a4_1 g56 a4_2 a4_3
        replace h2 := h2 x53 a4_0 a4_1 g56 a4_2
        refine ⟨fun z => ?_, fun z => ?_⟩
        · replace h1 := h1.1 z
          replace h2 := h2.1 z
          obtain ⟨m, hm, hi⟩ := h1
          exact ⟨m, hm, hi, h2⟩
        · replace h1 := h1.2 z
          replace h2 := h2.2 z
          obtain ⟨m, hm, hi⟩ := h1
          exact ⟨m, hm, hi, h2⟩
  · intro n g v95_2 v95_3 v95_5 s95_0 e0 e1 e2 e3 e4 e5 e6 e7 hI
    have h1 := h1_3 n g v95_2 v95_3 v95_5 s95_0 e0 e1 e2 e3 e4 e5 e6 e7 hI.1
    have h2 := h2_3 g v95_2 v95_3 v95_5 s95_0 e0 e1 e2 e3 e4 e5 e6 e7 hI.2
    clear h1E h2E hI h1_0 h2_0 h1_1 h2_1 h1_2 h2_2 h1_3 h2_3 h1_4 h2_4 h1_5 h2_5
    refine ⟨fun z => ?_, fun z => ?_⟩
    · replace h1 := h1.1 z
      replace h2 := h2.1 z
      obtain ⟨P1, c1, h1⟩ := h1
      refine ⟨P1, c1, ?_⟩
      intro g65 a3_0 a3_1 x67 a3_2
      replace h1 := h1 g65 a3_0 a3_1 x67 a3_2
      replace h2 := h2 g65 a3_0 x67 a3_2
      obtain ⟨m, hm, hi⟩ := h1
      exact ⟨m, hm, hi, h2⟩
    · replace h1 := h1.2 z
      replace h2 := h2.2 z
      obtain ⟨m, hm, hi⟩ := h1
      exact ⟨m, hm, hi, h2⟩
  · intro n g v115_2 v115_3 e0 e1 e2 e3 hI
    have h1 := h1_4 n g v115_2 v115_3 e0 e1 e2 e3 hI.1
    have h2 := h2_4 g v115_2 v115_3 e0 e1 e2 e3 hI.2
    clear h1E h2E hI h1_0 h2_0 h1_1 h2_1 h1_2 h2_2 h1_3 h2_3 h1_4 h2_4 h1_5 h2_5
    refine ⟨fun z => ?_, fun z => ?_⟩
    · replace h1 := h1.1 z
      replace h2 := h2.1 z
      intro b70 a3_0 a3_1
      replace h1 := h1 b70 a3_0 a3_1
      replace h2 := h2 b70 a3_0 a3_1
      obtain ⟨P1, c1, h1⟩ := h1
      refine ⟨P1, c1, ?_⟩
      intro g79 a3_0 a3_1
      replace h1 := h1 g79 a3_0 a3_1
      replace h2 := h2 g79 a3_0
      obtain ⟨m, hm, hi⟩ := h1
      exact ⟨m, hm, hi, h2⟩
    · replace h1 := h1.2 z
      replace h2 := h2.2 z
      obtain ⟨m, hm, hi⟩ := h1
      exact ⟨m, hm, hi, h2⟩
  · intro n g v130_3 e0 e1 e2 hI
    have h1 := h1_5 n g v130_3 e0 e1 e2 hI.1
    have h2 := h2_5 g v130_3 e0 e1 e2 hI.2
    clear h1E h2E hI h1_0 h2_0 h1_1 h2_1 h1_2 h2_2 h1_3 h2_3 h1_4 h2_4 h1_5 h2_5
    obtain ⟨P1, c1, h1⟩ := h1
    refine ⟨P1, c1, ?_⟩
    intro x86 a2_0 a2_1 g89 a2_2 a2_3
    replace h1 := h1 x86 a2_0 a2_1 g89 a2_2 a2_3
    replace h2 := h2 x86 a2_0 a2_1 g89 a2_2
    refine ⟨fun z => ?_, fun z => ?_⟩
    · replace h1 := h1.1 z
      replace h2 := h2.1 z
      obtain ⟨P1, c1, h1⟩ := h1
      refine ⟨P1, c1, ?_⟩
      intro g97 a3_0 a3_1 x99 a3_2
      replace h1 := h1 g97 a3_0 a3_1 x99 a3_2
      replace h2 := h2 g97 a3_0 x99 a3_2
      obtain ⟨m, hm, hi⟩ := h1
      exact ⟨m, hm, hi, h2⟩
    · replace h1 := h1.2 z
      replace h2 := h2.2 z
      obtain ⟨P1, c1, h1⟩ := h1
      refine ⟨P1, c1, ?_⟩
      intro x106 a3_0 a3_1 g109 a3_2 a3_3
      replace h1 := h1 x106 a3_0 a3_1 g109 a3_2 a3_3
      replace h2 := h2 x106 a3_0 a3_1 g109 a3_2
      refine ⟨fun z => ?_, fun z => ?_⟩
      · replace h1 := h1.1 z
        replace h2 := h2.1 z
        obtain ⟨P1, c1, h1⟩ := h1
        refine ⟨P1, c1, ?_⟩
        intro g117 a4_0 a4_1 x119 a4_2
        replace h1 := h1 g117 a4_0 a4_1 x119 a4_2
        replace h2 := h2 g117 a4_0 x119 a4_2
        obtain ⟨m, hm, hi⟩ := h1
        exact ⟨m, hm, hi, h2⟩
      · replace h1 := h1.2 z
        replace h2 := h2.2 z
        exact ⟨h1, h2⟩
set_option maxRecDepth 100000 in
def p_1301_c8 (s0 : zF) (Q : Int → zF → Prop) : Prop :=
  ∃ (I2 : zF → Int → Prop) (I28 : zF → Int → Prop) (I167 : zF → Int → Int → Prop),
    (I2 s0 0) ∧
    (∀ (g : zF) (v2_2 : Int), zFr [(2, 3, 0), (2, 3, 1), (20, 21, 1), (41, 42, 1), (21, 22, 1000), (42, 43, 1000), (2, 3, 7)] s0 g → 0 ≤ v2_2 → v2_2 ≤ 1601 → I2 g v2_2 → (1600 < v2_2 → I28 g v2_2) ∧ (v2_2 ≤ 1600 → ∀ x7 : Int, (-1) ≤ x7 → x7 ≤ 26 → ∀ g10 : zF, zFr [] g g10 → (¬ x7 = 23 → I28 g10 v2_2) ∧ (x7 = 23 → ∀ g18 : zF, zFr [(2, 3, 7)] g10 g18 → ∀ x20 : Int, x20 = v2_2 + 1 → I2 g18 x20))) ∧
    (∀ (g : zF) (v28_2 : Int), zFr [(2, 3, 0), (2, 3, 1), (20, 21, 1), (41, 42, 1), (21, 22, 1000), (42, 43, 1000), (2, 3, 7)] s0 g → 0 ≤ v28_2 → v28_2 ≤ 1601 → I28 g v28_2 → ∀ x27 : Int, 0 ≤ x27 → x27 ≤ 1 → ∀ g30 : zF, zFr [] g g30 → (¬ x27 = 0 → ∀ x38 : Int, 0 ≤ x38 → x38 ≤ 0 → ∀ g41 : zF, zFr [(2, 3, 0), (2, 3, 1)] g30 g41 → Q x38 g41) ∧ (x27 = 0 → ∀ x48 : Int, (-1) ≤ x48 → x48 ≤ 26 → ∀ g51 : zF, zFr [] g30 g51 → (¬ x48 = 24 → ∃ P56 : Int → zF → Prop, p_1297_c8 g51 P56 ∧ ∀ x59 : Int, 0 ≤ x59 → x59 ≤ 1 → ∀ g62 : zF, zFr [(2, 3, 0), (2, 3, 1), (20, 21, 1), (41, 42, 1), (21, 22, 1000), (42, 43, 1000), (2, 3, 7)] g51 g62 → P56 x59 g62 → (¬ x59 = 0 → ∀ x70 : Int, 0 ≤ x70 → x70 ≤ 1 → ∀ g73 : zF, zFr [] g62 g73 → (¬ x70 = 0 → I167 g73 v28_2 (-14)) ∧ (x70 = 0 → ∀ x81 : Int, 0 ≤ x81 → x81 ≤ 1 → ∀ g84 : zF, zFr [] g73 g84 → (¬ x81 = 0 → I167 g84 v28_2 (-15)) ∧ (x81 = 0 → ∀ x92 : Int, 0 ≤ x92 → x92 ≤ 1 → ∀ g95 : zF, zFr [] g84 g95 → (¬ x92 = 0 → I167 g95 v28_2 (-16)) ∧ (x92 = 0 → I167 g95 v28_2 0)))) ∧ (x59 = 0 → Q 0 g62)) ∧ (x48 = 24 → ∀ g103 : zF, zFr [(2, 3, 7)] g51 g103 → ∀ b105 : Nat, (b105 : Int) = g103 (2) 8 → (b105 = 7 ∨ b105 = 28) → ∀ g114 : zF, zFr [(b105 + 13, b105 + 14, 1), (b105 + 14, b105 + 15, 1000)] g103 g114 → ∀ x116 : Int, 0 ≤ x116 → x116 < 2 → x116 = v28_2 % 2 → (¬ x116 = 1 → Q 1 g114) ∧ (x116 = 1 → ∀ g127 : zF, zFr [(b105 + 13, b105 + 14, 1), (b105 + 14, b105 + 15, 1000)] g114 g127 → Q 1 g127)))) ∧
    (∀ (g : zF) (v167_2 : Int) (s167_0 : Int), zFr [(2, 3, 0), (2, 3, 1), (20, 21, 1), (41, 42, 1), (21, 22, 1000), (42, 43, 1000), (2, 3, 7)] s0 g → 0 ≤ v167_2 → v167_2 ≤ 1601 → (-16) ≤ s167_0 → s167_0 ≤ 0 → I167 g v167_2 s167_0 → (¬ s167_0 = 0 → ∀ g135 : zF, zFr [(2, 3, 7)] g g135 → ∃ P139 : Int → zF → Prop, p_1297_c8 g135 P139 ∧ ∀ x142 : Int, 0 ≤ x142 → x142 ≤ 1 → ∀ g145 : zF, zFr [(2, 3, 0), (2, 3, 1), (20, 21, 1), (41, 42, 1), (21, 22, 1000), (42, 43, 1000), (2, 3, 7)] g135 g145 → P139 x142 g145 → (¬ x142 = 0 → ∀ b148 : Nat, (b148 : Int) = g145 (2) 8 → (b148 = 7 ∨ b148 = 28) → ∀ g157 : zF, zFr [(b148 + 13, b148 + 14, 1), (b148 + 14, b148 + 15, 1000)] g145 g157 → ∀ x159 : Int, 0 ≤ x159 → x159 < 2 → x159 = v167_2 % 2 → (¬ x159 = 1 → Q 1 g157) ∧ (x159 = 1 → ∀ g170 : zF, zFr [(b148 + 13, b148 + 14, 1), (b148 + 14, b148 + 15, 1000)] g157 g170 → Q 1 g170)) ∧ (x142 = 0 → Q 0 g145)) ∧ (s167_0 = 0 → ∀ x177 : Int, 0 ≤ x177 → x177 ≤ 0 → ∀ g180 : zF, zFr [(2, 3, 0), (2, 3, 1)] g g180 → Q x177 g180))
set_option maxRecDepth 100000 in
theorem cj_1301_c8 {s0 : zF} {Q1 Q2 : Int → zF → Prop} (h1 : b_1301_c8 s0 Q1) (h2 : p_1301_c8 s0 Q2) : b_1301_c8 s0 (fun v g => Q1 v g ∧ Q2 v g) := by
  obtain ⟨I2, I28, I167, h1E, h1_0, h1_1, h1_2⟩ := h1
  obtain ⟨J2, J28, J167, h2E, h2_0, h2_1, h2_2⟩ := h2
  refine ⟨fun n g y0 => I2 n g y0 ∧ J2 g y0, fun n g y0 => I28 n g y0 ∧ J28 g y0, fun n g y0 y1 => I167 n g y0 y1 ∧ J167 g y0 y1, ?_, ?_, ?_, ?_⟩
  · have h1 := h1E
    have h2 := h2E
    clear h1E h2E h1_0 h2_0 h1_1 h2_1 h1_2 h2_2
    obtain ⟨m, hi⟩ := h1
    exact ⟨m, hi, h2⟩
  · intro n g v2_2 e0 e1 e2 hI
    have h1 := h1_0 n g v2_2 e0 e1 e2 hI.1
    have h2 := h2_0 g v2_2 e0 e1 e2 hI.2
    clear h1E h2E hI h1_0 h2_0 h1_1 h2_1 h1_2 h2_2
    refine ⟨fun z => ?_, fun z => ?_⟩
    · replace h1 := h1.1 z
      replace h2 := h2.1 z
      obtain ⟨m, hm, hi⟩ := h1
      exact ⟨m, hm, hi, h2⟩
    · replace h1 := h1.2 z
      replace h2 := h2.2 z
      obtain ⟨P1, c1, h1⟩ := h1
      refine ⟨P1, c1, ?_⟩
      intro x7 a3_0 a3_1 g10 a3_2 a3_3
      replace h1 := h1 x7 a3_0 a3_1 g10 a3_2 a3_3
      replace h2 := h2 x7 a3_0 a3_1 g10 a3_2
      refine ⟨fun z => ?_, fun z => ?_⟩
      · replace h1 := h1.1 z
        replace h2 := h2.1 z
        obtain ⟨m, hm, hi⟩ := h1
        exact ⟨m, hm, hi, h2⟩
      · replace h1 := h1.2 z
        replace h2 := h2.2 z
        obtain ⟨P1, c1, h1⟩ := h1
        refine ⟨P1, c1, ?_⟩
        intro g18 a4_0 a4_1 x20 a4_2
        replace h1 := h1 g18 a4_0 a4_1 x20 a4_2
        replace h2 := h2 g18 a4_0 x20 a4_2
        obtain ⟨m, hm, hi⟩ := h1
        exact ⟨m, hm, hi, h2⟩
  · intro n g v28_2 e0 e1 e2 hI
    have h1 := h1_1 n g v28_2 e0 e1 e2 hI.1
    have h2 := h2_1 g v28_2 e0 e1 e2 hI.2
    clear h1E h2E hI h1_0 h2_0 h1_1 h2_1 h1_2 h2_2
    obtain ⟨P1, c1, h1⟩ := h1
    refine ⟨P1, c1, ?_⟩
    intro x27 a2_0 a2_1 g30 a2_2 a2_3
    replace h1 := h1 x27 a2_0 a2_1 g30 a2_2 a2_3
    replace h2 := h2 x27 a2_0 a2_1 g30 a2_2
    refine ⟨fun z => ?_, fun z => ?_⟩
    · replace h1 := h1.1 z
      replace h2 := h2.1 z
      obtain ⟨P1, c1, h1⟩ := h1
      refine ⟨P1, c1, ?_⟩
      intro x38 a3_0 a3_1 g41 a3_2 a3_3
      replace h1 := h1 x38 a3_0 a3_1 g41 a3_2 a3_3
      replace h2 := h2 x38 a3_0 a3_1 g41 a3_2
      exact ⟨h1, h2⟩
    · replace h1 := h1.2 z
      replace h2 := h2.2 z
      obtain ⟨P1, c1, h1⟩ := h1
      refine ⟨P1, c1, ?_⟩
      intro x48 a3_0 a3_1 g51 a3_2 a3_3
      replace h1 := h1 x48 a3_0 a3_1 g51 a3_2 a3_3
      replace h2 := h2 x48 a3_0 a3_1 g51 a3_2
      refine ⟨fun z => ?_, fun z => ?_⟩
      · replace h1 := h1.1 z
        replace h2 := h2.1 z
        obtain ⟨P1, c1, h1⟩ := h1
        obtain ⟨P2, c2, h2⟩ := h2
        refine ⟨fun v g => P1 v g ∧ P2 v g, cj_1297_c8 c1 c2, ?_⟩
        intro x59 a4_0 a4_1 g62 a4_2 a4_3
        replace h1 := h1 x59 a4_0 a4_1 g62 a4_2 a4_3.1
        replace h2 := h2 x59 a4_0 a4_1 g62 a4_2 a4_3.2
        refine ⟨fun z => ?_, fun z => ?_⟩
        · replace h1 := h1.1 z
          replace h2 := h2.1 z
          obtain ⟨P1, c1, h1⟩ := h1
          refine ⟨P1, c1, ?_⟩
          intro x70 a5_0 a5_1 g73 a5_2 a5_3
          replace h1 := h1 x70 a5_0 a5_1 g73 a5_2 a5_3
          replace h2 := h2 x70 a5_0 a5_1 g73 a5_2
          refine ⟨fun z => ?_, fun z => ?_⟩
          · replace h1 := h1.1 z
            replace h2 := h2.1 z
            obtain ⟨m, hm, hi⟩ := h1
            exact ⟨m, hm, hi, h2⟩
          · replace h1 := h1.2 z
            replace h2 := h2.2 z
            obtain ⟨P1, c1, h1⟩ := h1
            refine ⟨P1, c1, ?_⟩
            intro x81 a6_0 a6_1 g84 a6_2 a6_3
            replace h1 := h1 x81 a6_0 a6_1 g84 a6_2 a6_3
            replace h2 := h2 x81 a6_0 a6_1 g84 a6_2
            refine ⟨fun z => ?_, fun z => ?_⟩
            · replace h1 := h1.1 z
              replace h2 := h2.1 z
              obtain ⟨m, hm, hi⟩ := h1
              exact ⟨m, hm, hi, h2⟩
            · replace h1 := h1.2 z
              replace h2 := h2.2 z
              obtain ⟨P1, c1, h1⟩ := h1
              refine ⟨P1, c1, ?_⟩
              intro x92 a7_0 a7_1 g95 a7_2 a7_3
              replace h1 := h1 x92 a7_0 a7_1 g95 a7_2 a7_3
              replace h2 := h2 x92 a7_0 a7_1 g95 a7_2
              refine ⟨fun z => ?_, fun z => ?_⟩
              · replace h1 := h1.1 z
                replace h2 := h2.1 z
                obtain ⟨m, hm, hi⟩ := h1
                exact ⟨m, hm, hi, h2⟩
              · replace h1 := h1.2 z
                replace h2 := h2.2 z
                obtain ⟨m, hm, hi⟩ := h1
                exact ⟨m, hm, hi, h2⟩
        · replace h1 := h1.2 z
          replace h2 := h2.2 z
          exact ⟨h1, h2⟩
      · replace h1 := h1.2 z
        replace h2 := h2.2 z
        obtain ⟨P1, c1, h1⟩ := h1
        refine ⟨P1, c1, ?_⟩
        intro g103 a4_0 a4_1 b105 a4_2 a4_3
        replace h1 := h1 g103 a4_0 a4_1 b105 a4_2 a4_3
        replace h2 := h2 g103 a4_0 b105 a4_2 a4_3
        obtain ⟨P1, c1, h1⟩ := h1
        refine ⟨P1, c1, ?_⟩
        intro g114 a4_0 a4_1 x116 a4_2 a4_3 a4_4
        replace h1 := h1 g114 a4_0 a4_1 x116 a4_2 a4_3 a4_4
        replace h2 := h2 g114 a4_0 x116 a4_2 a4_3 a4_4
        refine ⟨fun z => ?_, fun z => ?_⟩
        · replace h1 := h1.1 z
          replace h2 := h2.1 z
          exact ⟨h1, h2⟩
        · replace h1 := h1.2 z
          replace h2 := h2.2 z
          obtain ⟨P1, c1, h1⟩ := h1
          refine ⟨P1, c1, ?_⟩
          intro g127 a5_0 a5_1
          replace h1 := h1 g127 a5_0 a5_1
          replace h2 := h2 g127 a5_0
          exact ⟨h1, h2⟩
  · intro n g v167_2 s167_0 e0 e1 e2 e3 e4 hI
    have h1 := h1_2 n g v167_2 s167_0 e0 e1 e2 e3 e4 hI.1
    have h2 := h2_2 g v167_2 s167_0 e0 e1 e2 e3 e4 hI.2
    clear h1E h2E hI h1_0 h2_0 h1_1 h2_1 h1_2 h2_2
    refine ⟨fun z => ?_, fun z => ?_⟩
    · replace h1 := h1.1 z
      replace h2 := h2.1 z
      obtain ⟨P1, c1, h1⟩ := h1
      refine ⟨P1, c1, ?_⟩
      intro g135 a3_0 a3_1
      replace h1 := h1 g135 a3_0 a3_1
      replace h2 := h2 g135 a3_0
      obtain ⟨P1, c1, h1⟩ := h1
      obtain ⟨P2, c2, h2⟩ := h2
      refine ⟨fun v g => P1 v g ∧ P2 v g, cj_1297_c8 c1 c2, ?_⟩
      intro x142 a3_0 a3_1 g145 a3_2 a3_3
      replace h1 := h1 x142 a3_0 a3_1 g145 a3_2 a3_3.1
      replace h2 := h2 x142 a3_0 a3_1 g145 a3_2 a3_3.2
      refine ⟨fun z => ?_, fun z => ?_⟩
      · replace h1 := h1.1 z
        replace h2 := h2.1 z
        intro b148 a4_0 a4_1
        replace h1 := h1 b148 a4_0 a4_1
        replace h2 := h2 b148 a4_0 a4_1
        obtain ⟨P1, c1, h1⟩ := h1
        refine ⟨P1, c1, ?_⟩
        intro g157 a4_0 a4_1 x159 a4_2 a4_3 a4_4
        replace h1 := h1 g157 a4_0 a4_1 x159 a4_2 a4_3 a4_4
        replace h2 := h2 g157 a4_0 x159 a4_2 a4_3 a4_4
        refine ⟨fun z => ?_, fun z => ?_⟩
        · replace h1 := h1.1 z
          replace h2 := h2.1 z
          exact ⟨h1, h2⟩
        · replace h1 := h1.2 z
          replace h2 := h2.2 z
          obtain ⟨P1, c1, h1⟩ := h1
          refine ⟨P1, c1, ?_⟩
          intro g170 a5_0 a5_1
          replace h1 := h1 g170 a5_0 a5_1
          replace h2 := h2 g170 a5_0
          exact ⟨h1, h2⟩
      · replace h1 := h1.2 z
        replace h2 := h2.2 z
        exact ⟨h1, h2⟩
    · replace h1 := h1.2 z
      replace h2 := h2.2 z
      obtain ⟨P1, c1, h1⟩ := h1
      refine ⟨P1, c1, ?_⟩
      intro x177 a3_0 a3_1 g180 a3_2 a3_3
      replace h1 := h1 x177 a3_0 a3_1 g180 a3_2 a3_3
      replace h2 := h2 x177 a3_0 a3_1 g180 a3_2
      exact ⟨h1, h2⟩
set_option maxRecDepth 100000 in
def p_1300_c8 (s0 : zF) (Q : Int → zF → Prop) : Prop :=
  ∃ (I2 : zF → Int → Prop) (I11 : zF → Int → Int → Prop) (I44 : zF → Int → Int → Prop) (I66 : zF → Int → Prop),
    (I2 s0 0) ∧
    (∀ (g : zF) (v2_2 : Int), zFr [(2, 3, 0), (2, 3, 1), (20, 21, 1), (41, 42, 1), (21, 22, 1000), (42, 43, 1000), (2, 3, 7)] s0 g → 0 ≤ v2_2 → v2_2 ≤ 1601 → I2 g v2_2 → (1600 < v2_2 → Q 1 g) ∧ (v2_2 ≤ 1600 → I11 g v2_2 0)) ∧
    (∀ (g : zF) (v11_2 : Int) (v11_3 : Int), zFr [(2, 3, 0), (2, 3, 1), (20, 21, 1), (41, 42, 1), (21, 22, 1000), (42, 43, 1000), (2, 3, 7)] s0 g → 0 ≤ v11_2 → v11_2 ≤ 1600 → 0 ≤ v11_3 → v11_3 ≤ 1601 → I11 g v11_2 v11_3 → (1600 < v11_3 → I66 g v11_2) ∧ (v11_3 ≤ 1600 → ∃ P5 : Int → zF → Prop, p_1301_c8 g P5 ∧ ∀ x8 : Int, 0 ≤ x8 → x8 ≤ 1 → ∀ g11 : zF, zFr [(2, 3, 0), (2, 3, 1), (20, 21, 1), (41, 42, 1), (21, 22, 1000), (42, 43, 1000), (2, 3, 7)] g g11 → P5 x8 g11 → (¬ x8 = 0 → (0 < v11_3 → ∀ b15 : Nat, (b15 : Int) = g11 (2) 8 → (b15 = 7 ∨ b15 = 28) → ∀ g24 : zF, zFr [(b15 + 13, b15 + 14, 1), (b15 + 14, b15 + 15, 1000)] g11 g24 → I44 g24 v11_2 v11_3) ∧ (v11_3 ≤ 0 → I44 g11 v11_2 v11_3)) ∧ (x8 = 0 → Q 0 g11))) ∧
    (∀ (g : zF) (v44_2 : Int) (v44_3 : Int), zFr [(2, 3, 0), (2, 3, 1), (20, 21, 1), (41, 42, 1), (21, 22, 1000), (42, 43, 1000), (2, 3, 7)] s0 g → 0 ≤ v44_2 → v44_2 ≤ 1600 → 0 ≤ v44_3 → v44_3 ≤ 1600 → I44 g v44_2 v44_3 → ∀ x31 : Int, (-1) ≤ x31 → x31 ≤ 26 → ∀ g34 : zF, zFr [] g g34 → (¬ x31 = 22 → I66 g34 v44_2) ∧ (x31 = 22 → ∀ g42 : zF, zFr [(2, 3, 7)] g34 g42 → ∀ x44 : Int, x44 = v44_3 + 1 → I11 g42 v44_2 x44)) ∧
    (∀ (g : zF) (v66_2 : Int), zFr [(2, 3, 0), (2, 3, 1), (20, 21, 1), (41, 42, 1), (21, 22, 1000), (42, 43, 1000), (2, 3, 7)] s0 g → 0 ≤ v66_2 → v66_2 ≤ 1600 → I66 g v66_2 → (0 < v66_2 → ∀ b47 : Nat, (b47 : Int) = g (2) 8 → (b47 = 7 ∨ b47 = 28) → ∀ g56 : zF, zFr [(b47 + 13, b47 + 14, 1), (b47 + 14, b47 + 15, 1000)] g g56 → ∀ x63 : Int, (-1) ≤ x63 → x63 ≤ 26 → ∀ g66 : zF, zFr [] g56 g66 → (¬ x63 = 21 → Q 1 g66) ∧ (x63 = 21 → ∀ g74 : zF, zFr [(2, 3, 7)] g66 g74 → ∀ x76 : Int, x76 = v66_2 + 1 → I2 g74 x76)) ∧ (v66_2 ≤ 0 → ∀ x83 : Int, (-1) ≤ x83 → x83 ≤ 26 → ∀ g86 : zF, zFr [] g g86 → (¬ x83 = 21 → Q 1 g86) ∧ (x83 = 21 → ∀ g94 : zF, zFr [(2, 3, 7)] g86 g94 → ∀ x96 : Int, x96 = v66_2 + 1 → I2 g94 x96)))
set_option maxRecDepth 100000 in
theorem cj_1300_c8 {s0 : zF} {Q1 Q2 : Int → zF → Prop} (h1 : b_1300_c8 s0 Q1) (h2 : p_1300_c8 s0 Q2) : b_1300_c8 s0 (fun v g => Q1 v g ∧ Q2 v g) := by
  obtain ⟨I2, I11, I44, I66, h1E, h1_0, h1_1, h1_2, h1_3⟩ := h1
  obtain ⟨J2, J11, J44, J66, h2E, h2_0, h2_1, h2_2, h2_3⟩ := h2
  refine ⟨fun n g y0 => I2 n g y0 ∧ J2 g y0, fun n g y0 y1 => I11 n g y0 y1 ∧ J11 g y0 y1, fun n g y0 y1 => I44 n g y0 y1 ∧ J44 g y0 y1, fun n g y0 => I66 n g y0 ∧ J66 g y0, ?_, ?_, ?_, ?_, ?_⟩
  · have h1 := h1E
    have h2 := h2E
    clear h1E h2E h1_0 h2_0 h1_1 h2_1 h1_2 h2_2 h1_3 h2_3
    obtain ⟨m, hi⟩ := h1
    exact ⟨m, hi, h2⟩
  · intro n g v2_2 e0 e1 e2 hI
    have h1 := h1_0 n g v2_2 e0 e1 e2 hI.1
    have h2 := h2_0 g v2_2 e0 e1 e2 hI.2
    clear h1E h2E hI h1_0 h2_0 h1_1 h2_1 h1_2 h2_2 h1_3 h2_3
    refine ⟨fun z => ?_, fun z => ?_⟩
    · replace h1 := h1.1 z
      replace h2 := h2.1 z
      exact ⟨h1, h2⟩
    · replace h1 := h1.2 z
      replace h2 := h2.2 z
      obtain ⟨m, hm, hi⟩ := h1
      exact ⟨m, hm, hi, h2⟩
  · intro n g v11_2 v11_3 e0 e1 e2 e3 e4 hI
    have h1 := h1_1 n g v11_2 v11_3 e0 e1 e2 e3 e4 hI.1
    have h2 := h2_1 g v11_2 v11_3 e0 e1 e2 e3 e4 hI.2
    clear h1E h2E hI h1_0 h2_0 h1_1 h2_1 h1_2 h2_2 h1_3 h2_3
    refine ⟨fun z => ?_, fun z => ?_⟩
    · replace h1 := h1.1 z
      replace h2 := h2.1 z
      obtain ⟨m, hm, hi⟩ := h1
      exact ⟨m, hm, hi, h2⟩
    · replace h1 := h1.2 z
      replace h2 := h2.2 z
      obtain ⟨P1, c1, h1⟩ := h1
      obtain ⟨P2, c2, h2⟩ := h2
      refine ⟨fun v g => P1 v g ∧ P2 v g, cj_1301_c8 c1 c2, ?_⟩
      intro x8 a3_0 a3_1 g11 a3_2 a3_3
      replace h1 := h1 x8 a3_0 a3_1 g11 a3_2 a3_3.1
      replace h2 := h2 x8 a3_0 a3_1 g11 a3_2 a3_3.2
      refine ⟨fun z => ?_, fun z => ?_⟩
      · replace h1 := h1.1 z
        replace h2 := h2.1 z
        refine ⟨fun z => ?_, fun z => ?_⟩
        · replace h1 := h1.1 z
          replace h2 := h2.1 z
          intro b15 a5_0 a5_1
          replace h1 := h1 b15 a5_0 a5_1
          replace h2 := h2 b15 a5_0 a5_1
          obtain ⟨P1, c1, h1⟩ := h1
          refine ⟨P1, c1, ?_⟩
          intro g24 a5_0 a5_1
          replace h1 := h1 g24 a5_0 a5_1
          replace h2 := h2 g24 a5_0
          obtain ⟨m, hm, hi⟩ := h1
          exact ⟨m, hm, hi, h2⟩
        · replace h1 := h1.2 z
          replace h2 := h2.2 z
          obtain ⟨m, hm, hi⟩ := h1
          exact ⟨m, hm, hi, h2⟩
      · replace h1 := h1.2 z
        replace h2 := h2.2 z
        exact ⟨h1, h2⟩
  · intro n g v44_2 v44_3 e0 e1 e2 e3 e4 hI
    have h1 := h1_2 n g v44_2 v44_3 e0 e1 e2 e3 e4 hI.1
    have h2 := h2_2 g v44_2 v44_3 e0 e1 e2 e3 e4 hI.2
    clear h1E h2E hI h1_0 h2_0 h1_1 h2_1 h1_2 h2_2 h1_3 h2_3
    obtain ⟨P1, c1, h1⟩ := h1
    refine ⟨P1, c1, ?_⟩
    intro x31 a2_0 a2_1 g34 a2_2 a2_3
    replace h1 := h1 x31 a2_0 a2_1 g34 a2_2 a2_3
    replace h2 := h2 x31 a2_0 a2_1 g34 a2_2
    refine ⟨fun z => ?_, fun z => ?_⟩
    · replace h1 := h1.1 z
      replace h2 := h2.1 z
      obtain ⟨m, hm, hi⟩ := h1
      exact ⟨m, hm, hi, h2⟩
    · replace h1 := h1.2 z
      replace h2 := h2.2 z
      obtain ⟨P1, c1, h1⟩ := h1
      refine ⟨P1, c1, ?_⟩
      intro g42 a3_0 a3_1 x44 a3_2
      replace h1 := h1 g42 a3_0 a3_1 x44 a3_2
      replace h2 := h2 g42 a3_0 x44 a3_2
      obtain ⟨m, hm, hi⟩ := h1
      exact ⟨m, hm, hi, h2⟩
  · intro n g v66_2 e0 e1 e2 hI
    have h1 := h1_3 n g v66_2 e0 e1 e2 hI.1
    have h2 := h2_3 g v66_2 e0 e1 e2 hI.2
    clear h1E h2E hI h1_0 h2_0 h1_1 h2_1 h1_2 h2_2 h1_3 h2_3
    refine ⟨fun z => ?_, fun z => ?_⟩
    · replace h1 := h1.1 z
      replace h2 := h2.1 z
      intro b47 a3_0 a3_1
      replace h1 := h1 b47 a3_0 a3_1
      replace h2 := h2 b47 a3_0 a3_1
      obtain ⟨P1, c1, h1⟩ := h1
      refine ⟨P1, c1, ?_⟩
      intro g56 a3_0 a3_1
      replace h1 := h1 g56 a3_0 a3_1
      replace h2 := h2 g56 a3_0
      obtain ⟨P1, c1, h1⟩ := h1
      refine ⟨P1, c1, ?_⟩
      intro x63 a3_0 a3_1 g66 a3_2 a3_3
      replace h1 := h1 x63 a3_0 a3_1 g66 a3_2 a3_3
      replace h2 := h2 x63 a3_0 a3_1 g66 a3_2
      refine ⟨fun z => ?_, fun z => ?_⟩
      · replace h1 := h1.1 z
        replace h2 := h2.1 z
        exact ⟨h1, h2⟩
      · replace h1 := h1.2 z
        replace h2 := h2.2 z
        obtain ⟨P1, c1, h1⟩ := h1
        refine ⟨P1, c1, ?_⟩
        intro g74 a4_0 a4_1 x76 a4_2
        replace h1 := h1 g74 a4_0 a4_1 x76 a4_2
        replace h2 := h2 g74 a4_0 x76 a4_2
        obtain ⟨m, hm, hi⟩ := h1
        exact ⟨m, hm, hi, h2⟩
    · replace h1 := h1.2 z
      replace h2 := h2.2 z
      obtain ⟨P1, c1, h1⟩ := h1
      refine ⟨P1, c1, ?_⟩
      intro x83 a3_0 a3_1 g86 a3_2 a3_3
      replace h1 := h1 x83 a3_0 a3_1 g86 a3_2 a3_3
      replace h2 := h2 x83 a3_0 a3_1 g86 a3_2
      refine ⟨fun z => ?_, fun z => ?_⟩
      · replace h1 := h1.1 z
        replace h2 := h2.1 z
        exact ⟨h1, h2⟩
      · replace h1 := h1.2 z
        replace h2 := h2.2 z
        obtain ⟨P1, c1, h1⟩ := h1
        refine ⟨P1, c1, ?_⟩
        intro g94 a4_0 a4_1 x96 a4_2
        replace h1 := h1 g94 a4_0 a4_1 x96 a4_2
        replace h2 := h2 g94 a4_0 x96 a4_2
        obtain ⟨m, hm, hi⟩ := h1
        exact ⟨m, hm, hi, h2⟩
set_option maxRecDepth 100000 in
def p_1301_c7 (s0 : zF) (Q : Int → zF → Prop) : Prop :=
  ∃ (I2 : zF → Int → Prop) (I28 : zF → Int → Prop) (I167 : zF → Int → Int → Prop),
    (I2 s0 0) ∧
    (∀ (g : zF) (v2_2 : Int), zFr [(2, 3, 0), (2, 3, 1), (20, 21, 1), (41, 42, 1), (21, 22, 1000), (42, 43, 1000), (2, 3, 7)] s0 g → 0 ≤ v2_2 → v2_2 ≤ 1601 → I2 g v2_2 → (1600 < v2_2 → I28 g v2_2) ∧ (v2_2 ≤ 1600 → ∀ x7 : Int, (-1) ≤ x7 → x7 ≤ 26 → ∀ g10 : zF, zFr [] g g10 → (¬ x7 = 23 → I28 g10 v2_2) ∧ (x7 = 23 → ∀ g18 : zF, zFr [(2, 3, 7)] g10 g18 → ∀ x20 : Int, x20 = v2_2 + 1 → I2 g18 x20))) ∧
    (∀ (g : zF) (v28_2 : Int), zFr [(2, 3, 0), (2, 3, 1), (20, 21, 1), (41, 42, 1), (21, 22, 1000), (42, 43, 1000), (2, 3, 7)] s0 g → 0 ≤ v28_2 → v28_2 ≤ 1601 → I28 g v28_2 → ∀ x27 : Int, 0 ≤ x27 → x27 ≤ 1 → ∀ g30 : zF, zFr [] g g30 → (¬ x27 = 0 → ∀ g38 : zF, zFr [(2, 3, 7)] g30 g38 → ∃ P42 : Int → zF → Prop, p_1300_c8 g38 P42 ∧ ∀ x45 : Int, 0 ≤ x45 → x45 ≤ 1 → ∀ g48 : zF, zFr [(2, 3, 0), (2, 3, 1), (20, 21, 1), (41, 42, 1), (21, 22, 1000), (42, 43, 1000), (2, 3, 7)] g38 g48 → P42 x45 g48 → (¬ x45 = 0 → ∀ x56 : Int, 0 ≤ x56 → x56 ≤ 1 → ∀ g59 : zF, zFr [] g48 g59 → (¬ x56 = 0 → ∀ g67 : zF, zFr [(2, 3, 7)] g59 g67 → ∀ x69 : Int, 0 ≤ x69 → x69 < 2 → x69 = v28_2 % 2 → (¬ x69 = 1 → Q 1 g67) ∧ (x69 = 1 → ∀ b74 : Nat, (b74 : Int) = g67 (2) 8 → (b74 = 7 ∨ b74 = 28) → ∀ g83 : zF, zFr [(b74 + 13, b74 + 14, 1), (b74 + 14, b74 + 15, 1000)] g67 g83 → Q 1 g83)) ∧ (x56 = 0 → ∀ x90 : Int, 0 ≤ x90 → x90 ≤ 0 → ∀ g93 : zF, zFr [(2, 3, 0), (2, 3, 1)] g59 g93 → Q x90 g93)) ∧ (x45 = 0 → Q 0 g48)) ∧ (x27 = 0 → ∀ x100 : Int, (-1) ≤ x100 → x100 ≤ 26 → ∀ g103 : zF, zFr [] g30 g103 → (¬ x100 = 24 → ∃ P108 : Int → zF → Prop, p_1297_c7 g103 P108 ∧ ∀ x111 : Int, 0 ≤ x111 → x111 ≤ 1 → ∀ g114 : zF, zFr [(2, 3, 0), (2, 3, 1), (20, 21, 1), (41, 42, 1), (21, 22, 1000), (42, 43, 1000), (2, 3, 7)] g103 g114 → P108 x111 g114 → (¬ x111 = 0 → ∀ x122 : Int, 0 ≤ x122 → x122 ≤ 1 → ∀ g125 : zF, zFr [] g114 g125 → (¬ x122 = 0 → I167 g125 v28_2 (-14)) ∧ (x122 = 0 → ∀ x133 : Int, 0 ≤ x133 → x133 ≤ 1 → ∀ g136 : zF, zFr [] g125 g136 → (¬ x133 = 0 → I167 g136 v28_2 (-15)) ∧ (x133 = 0 → ∀ x144 : Int, 0 ≤ x144 → x144 ≤ 1 → ∀ g147 : zF, zFr [] g136 g147 → (¬ x144 = 0 → I167 g147 v28_2 (-16)) ∧ (x144 = 0 → I167 g147 v28_2 0)))) ∧ (x111 = 0 → Q 0 g114)) ∧ (x100 = 24 → ∀ g155 : zF, zFr [(2, 3, 7)] g103 g155 → ∀ b157 : Nat, (b157 : Int) = g155 (2) 8 → (b157 = 7 ∨ b157 = 28) → ∀ g166 : zF, zFr [(b157 + 13, b157 + 14, 1), (b157 + 14, b157 + 15, 1000)] g155 g166 → ∀ x168 : Int, 0 ≤ x168 → x168 < 2 → x168 = v28_2 % 2 → (¬ x168 = 1 → Q 1 g166) ∧ (x168 = 1 → ∀ g179 : zF, zFr [(b157 + 13, b157 + 14, 1), (b157 + 14, b157 + 15, 1000)] g166 g179 → Q 1 g179)))) ∧
    (∀ (g : zF) (v167_2 : Int) (s167_0 : Int), zFr [(2, 3, 0), (2, 3, 1), (20, 21, 1), (41, 42, 1), (21, 22, 1000), (42, 43, 1000), (2, 3, 7)] s0 g → 0 ≤ v167_2 → v167_2 ≤ 1601 → (-16) ≤ s167_0 → s167_0 ≤ 0 → I167 g v167_2 s167_0 → (¬ s167_0 = 0 → ∀ g187 : zF, zFr [(2, 3, 7)] g g187 → ∃ P191 : Int → zF → Prop, p_1297_c7 g187 P191 ∧ ∀ x194 : Int, 0 ≤ x194 → x194 ≤ 1 → ∀ g197 : zF, zFr [(2, 3, 0), (2, 3, 1), (20, 21, 1), (41, 42, 1), (21, 22, 1000), (42, 43, 1000), (2, 3, 7)] g187 g197 → P191 x194 g197 → (¬ x194 = 0 → ∀ b200 : Nat, (b200 : Int) = g197 (2) 8 → (b200 = 7 ∨ b200 = 28) → ∀ g209 : zF, zFr [(b200 + 13, b200 + 14, 1), (b200 + 14, b200 + 15, 1000)] g197 g209 → ∀ x211 : Int, 0 ≤ x211 → x211 < 2 → x211 = v167_2 % 2 → (¬ x211 = 1 → Q 1 g209) ∧ (x211 = 1 → ∀ g222 : zF, zFr [(b200 + 13, b200 + 14, 1), (b200 + 14, b200 + 15, 1000)] g209 g222 → Q 1 g222)) ∧ (x194 = 0 → Q 0 g197)) ∧ (s167_0 = 0 → ∀ x229 : Int, 0 ≤ x229 → x229 ≤ 0 → ∀ g232 : zF, zFr [(2, 3, 0), (2, 3, 1)] g g232 → Q x229 g232))
set_option maxRecDepth 100000 in
theorem cj_1301_c7 {s0 : zF} {Q1 Q2 : Int → zF → Prop} (h1 : b_1301_c7 s0 Q1) (h2 : p_1301_c7 s0 Q2) : b_1301_c7 s0 (fun v g => Q1 v g ∧ Q2 v g) := by
  obtain ⟨I2, I28, I167, h1E, h1_0, h1_1, h1_2⟩ := h1
  obtain ⟨J2, J28, J167, h2E, h2_0, h2_1, h2_2⟩ := h2
  refine ⟨fun n g y0 => I2 n g y0 ∧ J2 g y0, fun n g y0 => I28 n g y0 ∧ J28 g y0, fun n g y0 y1 => I167 n g y0 y1 ∧ J167 g y0 y1, ?_, ?_, ?_, ?_⟩
  · have h1 := h1E
    have h2 := h2E
    clear h1E h2E h1_0 h2_0 h1_1 h2_1 h1_2 h2_2
    obtain ⟨m, hi⟩ := h1
    exact ⟨m, hi, h2⟩
  · intro n g v2_2 e0 e1 e2 hI
    have h1 := h1_0 n g v2_2 e0 e1 e2 hI.1
    have h2 := h2_0 g v2_2 e0 e1 e2 hI.2
    clear h1E h2E hI h1_0 h2_0 h1_1 h2_1 h1_2 h2_2
    refine ⟨fun z => ?_, fun z => ?_⟩
    · replace h1 := h1.1 z
      replace h2 := h2.1 z
      obtain ⟨m, hm, hi⟩ := h1
      exact ⟨m, hm, hi, h2⟩
    · replace h1 := h1.2 z
      replace h2 := h2.2 z
      obtain ⟨P1, c1, h1⟩ := h1
      refine ⟨P1, c1, ?_⟩
      intro x7 a3_0 a3_1 g10 a3_2 a3_3
      replace h1 := h1 x7 a3_0 a3_1 g10 a3_2 a3_3
      replace h2 := h2 x7 a3_0 a3_1 g10 a3_2
      refine ⟨fun z => ?_, fun z => ?_⟩
      · replace h1 := h1.1 z
        replace h2 := h2.1 z
        obtain ⟨m, hm, hi⟩ := h1
        exact ⟨m, hm, hi, h2⟩
      · replace h1 := h1.2 z
        replace h2 := h2.2 z
        obtain ⟨P1, c1, h1⟩ := h1
        refine ⟨P1, c1, ?_⟩
        intro g18 a4_0 a4_1 x20 a4_2
        replace h1 := h1 g18 a4_0 a4_1 x20 a4_2
        replace h2 := h2 g18 a4_0 x20 a4_2
        obtain ⟨m, hm, hi⟩ := h1
        exact ⟨m, hm, hi, h2⟩
  · intro n g v28_2 e0 e1 e2 hI
    have h1 := h1_1 n g v28_2 e0 e1 e2 hI.1
    have h2 := h2_1 g v28_2 e0 e1 e2 hI.2
    clear h1E h2E hI h1_0 h2_0 h1_1 h2_1 h1_2 h2_2
    obtain ⟨P1, c1, h1⟩ := h1
    refine ⟨P1, c1, ?_⟩
    intro x27 a2_0 a2_1 g30 a2_2 a2_3
    replace h1 := h1 x27 a2_0 a2_1 g30 a2_2 a2_3
    replace h2 := h2 x27 a2_0 a2_1 g30 a2_2
    refine ⟨fun z => ?_, fun z => ?_⟩
    · replace h1 := h1.1 z
      replace h2 := h2.1 z
      obtain ⟨P1, c1, h1⟩ := h1
      refine ⟨P1, c1, ?_⟩
      intro g38 a3_0 a3_1
      replace h1 := h1 g38 a3_0 a3_1
      replace h2 := h2 g38 a3_0
      obtain ⟨P1, c1, h1⟩ := h1
      obtain ⟨P2, c2, h2⟩ := h2
      refine ⟨fun v g => P1 v g ∧ P2 v g, cj_1300_c8 c1 c2, ?_⟩
      intro x45 a3_0 a3_1 g48 a3_2 a3_3
      replace h1 := h1 x45 a3_0 a3_1 g48 a3_2 a3_3.1
      replace h2 := h2 x45 a3_0 a3_1 g48 a3_2 a3_3.2
      refine ⟨fun z => ?_, fun z => ?_⟩
      · replace h1 := h1.1 z
        replace h2 := h2.1 z
        obtain ⟨P1, c1, h1⟩ := h1
        refine ⟨P1, c1, ?_⟩
        intro x56 a4_0 a4_1 g59 a4_2 a4_3
        replace h1 := h1 x56 a4_0 a4_1 g59 a4_2 a4_3
        replace h2 := h2 x56 a4_0 a4_1 g59 a4_2
        refine ⟨fun z => ?_, fun z => ?_⟩
        · replace h1 := h1.1 z
          replace h2 := h2.1 z
          obtain ⟨P1, c1, h1⟩ := h1
          refine ⟨P1, c1, ?_⟩
          intro g67 a5_0 a5_1 x69 a5_2 a5_3 a5_4
          replace h1 := h1 g67 a5_0 a5_1 x69 a5_2 a5_3 a5_4
          replace h2 := h2 g67 a5_0 x69 a5_2 a5_3 a5_4
          refine ⟨fun z => ?_, fun z => ?_⟩
          · replace h1 := h1.1 z
            replace h2 := h2.1 z
            exact ⟨h1, h2⟩
          · replace h1 := h1.2 z
            replace h2 := h2.2 z
            intro b74 a6_0 a6_1
            replace h1 := h1 b74 a6_0 a6_1
            replace h2 := h2 b74 a6_0 a6_1
            obtain ⟨P1, c1, h1⟩ := h1
            refine ⟨P1, c1, ?_⟩
            intro g83 a6_0 a6_1
            replace h1 := h1 g83 a6_0 a6_1
            replace h2 := h2 g83 a6_0
            exact ⟨h1, h2⟩
        · replace h1 := h1.2 z
          replace h2 := h2.2 z
          obtain ⟨P1, c1, h1⟩ := h1
          refine ⟨P1, c1, ?_⟩
          intro x90 a5_0 a5_1 g93 a5_2 a5_3
          replace h1 := h1 x90 a5_0 a5_1 g93 a5_2 a5_3
          replace h2 := h2 x90 a5_0 a5_1 g93 a5_2
          exact ⟨h1, h2⟩
      · replace h1 := h1.2 z
        replace h2 := h2.2 z
        exact ⟨h1, h2⟩
    · replace h1 := h1.2 z
      replace h2 := h2.2 z
      obtain ⟨P1, c1, h1⟩ := h1
      refine ⟨P1, c1, ?_⟩
      intro x100 a3_0 a3_1 g103 a3_2 a3_3
      replace h1 := h1 x100 a3_0 a3_1 g103 a3_2 a3_3
      replace h2 := h2 x100 a3_0 a3_1 g103 a3_2
      refine ⟨fun z => ?_, fun z => ?_⟩
      · replace h1 := h1.1 z
        replace h2 := h2.1 z
        obtain ⟨P1, c1, h1⟩ := h1
        obtain ⟨P2, c2, h2⟩ := h2
        refine ⟨fun v g => P1 v g ∧ P2 v g, cj_1297_c7 c1 c2, ?_⟩
        intro x111 a4_0 a4_1 g114 a4_2 a4_3
        replace h1 := h1 x111 a4_0 a4_1 g114 a4_2 a4_3.1
        replace h2 := h2 x111 a4_0 a4_1 g114 a4_2 a4_3.2
        refine ⟨fun z => ?_, fun z => ?_⟩
        · replace h1 := h1.1 z
          replace h2 := h2.1 z
          obtain ⟨P1, c1, h1⟩ := h1
          refine ⟨P1, c1, ?_⟩
          intro x122 a5_0 a5_1 g125 a5_2 a5_3
          replace h1 := h1 x122 a5_0 a5_1 g125 a5_2 a5_3
          replace h2 := h2 x122 a5_0 a5_1 g125 a5_2
          refine ⟨fun z => ?_, fun z => ?_⟩
          · replace h1 := h1.1 z
            replace h2 := h2.1 z
            obtain ⟨m, hm, hi⟩ := h1
            exact ⟨m, hm, hi, h2⟩
          · replace h1 := h1.2 z
            replace h2 := h2.2 z
            obtain ⟨P1, c1, h1⟩ := h1
            refine ⟨P1, c1, ?_⟩
            intro x133 a6_0 a6_1 g136 a6_2 a6_3
            replace h1 := h1 x133 a6_0 a6_1 g136 a6_2 a6_3
            replace h2 := h2 x133 a6_0 a6_1 g136 a6_2
            refine ⟨fun z => ?_, fun z => ?_⟩
            · replace h1 := h1.1 z
              replace h2 := h2.1 z
              obtain ⟨m, hm, hi⟩ := h1
              exact ⟨m, hm, hi, h2⟩
            · replace h1 := h1.2 z
              replace h2 := h2.2 z
              obtain ⟨P1, c1, h1⟩ := h1
              refine ⟨P1, c1, ?_⟩
              intro x144 a7_0 a7_1 g147 a7_2 a7_3
              replace h1 := h1 x144 a7_0 a7_1 g147 a7_2 a7_3
              replace h2 := h2 x144 a7_0 a7_1 g147 a7_2
              refine ⟨fun z => ?_, fun z => ?_⟩
              · replace h1 := h1.1 z
                replace h2 := h2.1 z
                obtain ⟨m, hm, hi⟩ := h1
                exact ⟨m, hm, hi, h2⟩
              · replace h1 := h1.2 z
                replace h2 := h2.2 z
                obtain ⟨m, hm, hi⟩ := h1
                exact ⟨m, hm, hi, h2⟩
        · replace h1 := h1.2 z
          replace h2 := h2.2 z
          exact ⟨h1, h2⟩
      · replace h1 := h1.2 z
        replace h2 := h2.2 z
        obtain ⟨P1, c1, h1⟩ := h1
        refine ⟨P1, c1, ?_⟩
        intro g155 a4_0 a4_1 b157 a4_2 a4_3
        replace h1 := h1 g155 a4_0 a4_1 b157 a4_2 a4_3
        replace h2 := h2 g155 a4_0 b157 a4_2 a4_3
        obtain ⟨P1, c1, h1⟩ := h1
        refine ⟨P1, c1, ?_⟩
        intro g166 a4_0 a4_1 x168 a4_2 a4_3 a4_4
        replace h1 := h1 g166 a4_0 a4_1 x168 a4_2 a4_3 a4_4
        replace h2 := h2 g166 a4_0 x168 a4_2 a4_3 a4_4
        refine ⟨fun z => ?_, fun z => ?_⟩
        · replace h1 := h1.1 z
          replace h2 := h2.1 z
          exact ⟨h1, h2⟩
        · replace h1 := h1.2 z
          replace h2 := h2.2 z
          obtain ⟨P1, c1, h1⟩ := h1
          refine ⟨P1, c1, ?_⟩
          intro g179 a5_0 a5_1
          replace h1 := h1 g179 a5_0 a5_1
          replace h2 := h2 g179 a5_0
          exact ⟨h1, h2⟩
  · intro n g v167_2 s167_0 e0 e1 e2 e3 e4 hI
    have h1 := h1_2 n g v167_2 s167_0 e0 e1 e2 e3 e4 hI.1
    have h2 := h2_2 g v167_2 s167_0 e0 e1 e2 e3 e4 hI.2
    clear h1E h2E hI h1_0 h2_0 h1_1 h2_1 h1_2 h2_2
    refine ⟨fun z => ?_, fun z => ?_⟩
    · replace h1 := h1.1 z
      replace h2 := h2.1 z
      obtain ⟨P1, c1, h1⟩ := h1
      refine ⟨P1, c1, ?_⟩
      intro g187 a3_0 a3_1
      replace h1 := h1 g187 a3_0 a3_1
      replace h2 := h2 g187 a3_0
      obtain ⟨P1, c1, h1⟩ := h1
      obtain ⟨P2, c2, h2⟩ := h2
      refine ⟨fun v g => P1 v g ∧ P2 v g, cj_1297_c7 c1 c2, ?_⟩
      intro x194 a3_0 a3_1 g197 a3_2 a3_3
      replace h1 := h1 x194 a3_0 a3_1 g197 a3_2 a3_3.1
      replace h2 := h2 x194 a3_0 a3_1 g197 a3_2 a3_3.2
      refine ⟨fun z => ?_, fun z => ?_⟩
      · replace h1 := h1.1 z
        replace h2 := h2.1 z
        intro b200 a4_0 a4_1
        replace h1 := h1 b200 a4_0 a4_1
        replace h2 := h2 b200 a4_0 a4_1
        obtain ⟨P1, c1, h1⟩ := h1
        refine ⟨P1, c1, ?_⟩
        intro g209 a4_0 a4_1 x211 a4_2 a4_3 a4_4
        replace h1 := h1 g209 a4_0 a4_1 x211 a4_2 a4_3 a4_4
        replace h2 := h2 g209 a4_0 x211 a4_2 a4_3 a4_4
        refine ⟨fun z => ?_, fun z => ?_⟩
        · replace h1 := h1.1 z
          replace h2 := h2.1 z
          exact ⟨h1, h2⟩
        · replace h1 := h1.2 z
          replace h2 := h2.2 z
          obtain ⟨P1, c1, h1⟩ := h1
          refine ⟨P1, c1, ?_⟩
          intro g222 a5_0 a5_1
          replace h1 := h1 g222 a5_0 a5_1
          replace h2 := h2 g222 a5_0
          exact ⟨h1, h2⟩
      · replace h1 := h1.2 z
        replace h2 := h2.2 z
        exact ⟨h1, h2⟩
    · replace h1 := h1.2 z
      replace h2 := h2.2 z
      obtain ⟨P1, c1, h1⟩ := h1
      refine ⟨P1, c1, ?_⟩
      intro x229 a3_0 a3_1 g232 a3_2 a3_3
      replace h1 := h1 x229 a3_0 a3_1 g232 a3_2 a3_3
      replace h2 := h2 x229 a3_0 a3_1 g232 a3_2
      exact ⟨h1, h2⟩
set_option maxRecDepth 100000 in
def p_1300_c7 (s0 : zF) (Q : Int → zF → Prop) : Prop :=
  ∃ (I2 : zF → Int → Prop) (I11 : zF → Int → Int → Prop) (I44 : zF → Int → Int → Prop) (I66 : zF → Int → Prop),
    (I2 s0 0) ∧
    (∀ (g : zF) (v2_2 : Int), zFr [(2, 3, 0), (2, 3, 1), (20, 21, 1), (41, 42, 1), (21, 22, 1000), (42, 43, 1000), (2, 3, 7)] s0 g → 0 ≤ v2_2 → v2_2 ≤ 1601 → I2 g v2_2 → (1600 < v2_2 → Q 1 g) ∧ (v2_2 ≤ 1600 → I11 g v2_2 0)) ∧
    (∀ (g : zF) (v11_2 : Int) (v11_3 : Int), zFr [(2, 3, 0), (2, 3, 1), (20, 21, 1), (41, 42, 1), (21, 22, 1000), (42, 43, 1000), (2, 3, 7)] s0 g → 0 ≤ v11_2 → v11_2 ≤ 1600 → 0 ≤ v11_3 → v11_3 ≤ 1601 → I11 g v11_2 v11_3 → (1600 < v11_3 → I66 g v11_2) ∧ (v11_3 ≤ 1600 → ∃ P5 : Int → zF → Prop, p_1301_c7 g P5 ∧ ∀ x8 : Int, 0 ≤ x8 → x8 ≤ 1 → ∀ g11 : zF, zFr [(2, 3, 0), (2, 3, 1), (20, 21, 1), (41, 42, 1), (21, 22, 1000), (42, 43, 1000), (2, 3, 7)] g g11 → P5 x8 g11 → (¬ x8 = 0 → (0 < v11_3 → ∀ b15 : Nat, (b15 : Int) = g11 (2) 8 → (b15 = 7 ∨ b15 = 28) → ∀ g24 : zF, zFr [(b15 + 13, b15 + 14, 1), (b15 + 14, b15 + 15, 1000)] g11 g24 → I44 g24 v11_2 v11_3) ∧ (v11_3 ≤ 0 → I44 g11 v11_2 v11_3)) ∧ (x8 = 0 → Q 0 g11))) ∧
    (∀ (g : zF) (v44_2 : Int) (v44_3 : Int), zFr [(2, 3, 0), (2, 3, 1), (20, 21, 1), (41, 42, 1), (21, 22, 1000), (42, 43, 1000), (2, 3, 7)] s0 g → 0 ≤ v44_2 → v44_2 ≤ 1600 → 0 ≤ v44_3 → v44_3 ≤ 1600 → I44 g v44_2 v44_3 → ∀ x31 : Int, (-1) ≤ x31 → x31 ≤ 26 → ∀ g34 : zF, zFr [] g g34 → (¬ x31 = 22 → I66 g34 v44_2) ∧ (x31 = 22 → ∀ g42 : zF, zFr [(2, 3, 7)] g34 g42 → ∀ x44 : Int, x44 = v44_3 + 1 → I11 g42 v44_2 x44)) ∧
    (∀ (g : zF) (v66_2 : Int), zFr [(2, 3, 0), (2, 3, 1), (20, 21, 1), (41, 42, 1), (21, 22, 1000), (42, 43, 1000), (2, 3, 7)] s0 g → 0 ≤ v66_2 → v66_2 ≤ 1600 → I66 g v66_2 → (0 < v66_2 → ∀ b47 : Nat, (b47 : Int) = g (2) 8 → (b47 = 7 ∨ b47 = 28) → ∀ g56 : zF, zFr [(b47 + 13, b47 + 14, 1), (b47 + 14, b47 + 15, 1000)] g g56 → ∀ x63 : Int, (-1) ≤ x63 → x63 ≤ 26 → ∀ g66 : zF, zFr [] g56 g66 → (¬ x63 = 21 → Q 1 g66) ∧ (x63 = 21 → ∀ g74 : zF, zFr [(2, 3, 7)] g66 g74 → ∀ x76 : Int, x76 = v66_2 + 1 → I2 g74 x76)) ∧ (v66_2 ≤ 0 → ∀ x83 : Int, (-1) ≤ x83 → x83 ≤ 26 → ∀ g86 : zF, zFr [] g g86 → (¬ x83 = 21 → Q 1 g86) ∧ (x83 = 21 → ∀ g94 : zF, zFr [(2, 3, 7)] g86 g94 → ∀ x96 : Int, x96 = v66_2 + 1 → I2 g94 x96)))
set_option maxRecDepth 100000 in
theorem cj_1300_c7 {s0 : zF} {Q1 Q2 : Int → zF → Prop} (h1 : b_1300_c7 s0 Q1) (h2 : p_1300_c7 s0 Q2) : b_1300_c7 s0 (fun v g => Q1 v g ∧ Q2 v g) := by
  obtain ⟨I2, I11, I44, I66, h1E, h1_0, h1_1, h1_2, h1_3⟩ := h1
  obtain ⟨J2, J11, J44, J66, h2E, h2_0, h2_1, h2_2, h2_3⟩ := h2
  refine ⟨fun n g y0 => I2 n g y0 ∧ J2 g y0, fun n g y0 y1 => I11 n g y0 y1 ∧ J11 g y0 y1, fun n g y0 y1 => I44 n g y0 y1 ∧ J44 g y0 y1, fun n g y0 => I66 n g y0 ∧ J66 g y0, ?_, ?_, ?_, ?_, ?_⟩
  · have h1 := h1E
    have h2 := h2E
    clear h1E h2E h1_0 h2_0 h1_1 h2_1 h1_2 h2_2 h1_3 h2_3
    obtain ⟨m, hi⟩ := h1
    exact ⟨m, hi, h2⟩
  · intro n g v2_2 e0 e1 e2 hI
    have h1 := h1_0 n g v2_2 e0 e1 e2 hI.1
    have h2 := h2_0 g v2_2 e0 e1 e2 hI.2
    clear h1E h2E hI h1_0 h2_0 h1_1 h2_1 h1_2 h2_2 h1_3 h2_3
    refine ⟨fun z => ?_, fun z => ?_⟩
    · replace h1 := h1.1 z
      replace h2 := h2.1 z
      exact ⟨h1, h2⟩
    · replace h1 := h1.2 z
      replace h2 := h2.2 z
      obtain ⟨m, hm, hi⟩ := h1
      exact ⟨m, hm, hi, h2⟩
  · intro n g v11_2 v11_3 e0 e1 e2 e3 e4 hI
    have h1 := h1_1 n g v11_2 v11_3 e0 e1 e2 e3 e4 hI.1
    have h2 := h2_1 g v11_2 v11_3 e0 e1 e2 e3 e4 hI.2
    clear h1E h2E hI h1_0 h2_0 h1_1 h2_1 h1_2 h2_2 h1_3 h2_3
    refine ⟨fun z => ?_, fun z => ?_⟩
    · replace h1 := h1.1 z
      replace h2 := h2.1 z
      obtain ⟨m, hm, hi⟩ := h1
      exact ⟨m, hm, hi, h2⟩
    · replace h1 := h1.2 z
      replace h2 := h2.2 z
      obtain ⟨P1, c1, h1⟩ := h1
      obtain ⟨P2, c2, h2⟩ := h2
      refine ⟨fun v g => P1 v g ∧ P2 v g, cj_1301_c7 c1 c2, ?_⟩
      intro x8 a3_0 a3_1 g11 a3_2 a3_3
      replace h1 := h1 x8 a3_0 a3_1 g11 a3_2 a3_3.1
      replace h2 := h2 x8 a3_0 a3_1 g11 a3_2 a3_3.2
      refine ⟨fun z => ?_, fun z => ?_⟩
      · replace h1 := h1.1 z
        replace h2 := h2.1 z
        refine ⟨fun z => ?_, fun z => ?_⟩
        · replace h1 := h1.1 z
          replace h2 := h2.1 z
          intro b15 a5_0 a5_1
          replace h1 := h1 b15 a5_0 a5_1
          replace h2 := h2 b15 a5_0 a5_1
          obtain ⟨P1, c1, h1⟩ := h1
          refine ⟨P1, c1, ?_⟩
          intro g24 a5_0 a5_1
          replace h1 := h1 g24 a5_0 a5_1
          replace h2 := h2 g24 a5_0
          obtain ⟨m, hm, hi⟩ := h1
          exact ⟨m, hm, hi, h2⟩
        · replace h1 := h1.2 z
          replace h2 := h2.2 z
          obtain ⟨m, hm, hi⟩ := h1
          exact ⟨m, hm, hi, h2⟩
      · replace h1 := h1.2 z
        replace h2 := h2.2 z
        exact ⟨h1, h2⟩
  · intro n g v44_2 v44_3 e0 e1 e2 e3 e4 hI
    have h1 := h1_2 n g v44_2 v44_3 e0 e1 e2 e3 e4 hI.1
    have h2 := h2_2 g v44_2 v44_3 e0 e1 e2 e3 e4 hI.2
    clear h1E h2E hI h1_0 h2_0 h1_1 h2_1 h1_2 h2_2 h1_3 h2_3
    obtain ⟨P1, c1, h1⟩ := h1
    refine ⟨P1, c1, ?_⟩
    intro x31 a2_0 a2_1 g34 a2_2 a2_3
    replace h1 := h1 x31 a2_0 a2_1 g34 a2_2 a2_3
    replace h2 := h2 x31 a2_0 a2_1 g34 a2_2
    refine ⟨fun z => ?_, fun z => ?_⟩
    · replace h1 := h1.1 z
      replace h2 := h2.1 z
      obtain ⟨m, hm, hi⟩ := h1
      exact ⟨m, hm, hi, h2⟩
    · replace h1 := h1.2 z
      replace h2 := h2.2 z
      obtain ⟨P1, c1, h1⟩ := h1
      refine ⟨P1, c1, ?_⟩
      intro g42 a3_0 a3_1 x44 a3_2
      replace h1 := h1 g42 a3_0 a3_1 x44 a3_2
      replace h2 := h2 g42 a3_0 x44 a3_2
      obtain ⟨m, hm, hi⟩ := h1
      exact ⟨m, hm, hi, h2⟩
  · intro n g v66_2 e0 e1 e2 hI
    have h1 := h1_3 n g v66_2 e0 e1 e2 hI.1
    have h2 := h2_3 g v66_2 e0 e1 e2 hI.2
    clear h1E h2E hI h1_0 h2_0 h1_1 h2_1 h1_2 h2_2 h1_3 h2_3
    refine ⟨fun z => ?_, fun z => ?_⟩
    · replace h1 := h1.1 z
      replace h2 := h2.1 z
      intro b47 a3_0 a3_1
      replace h1 := h1 b47 a3_0 a3_1
      replace h2 := h2 b47 a3_0 a3_1
      obtain ⟨P1, c1, h1⟩ := h1
      refine ⟨P1, c1, ?_⟩
      intro g56 a3_0 a3_1
      replace h1 := h1 g56 a3_0 a3_1
      replace h2 := h2 g56 a3_0
      obtain ⟨P1, c1, h1⟩ := h1
      refine ⟨P1, c1, ?_⟩
      intro x63 a3_0 a3_1 g66 a3_2 a3_3
      replace h1 := h1 x63 a3_0 a3_1 g66 a3_2 a3_3
      replace h2 := h2 x63 a3_0 a3_1 g66 a3_2
      refine ⟨fun z => ?_, fun z => ?_⟩
      · replace h1 := h1.1 z
        replace h2 := h2.1 z
        exact ⟨h1, h2⟩
      · replace h1 := h1.2 z
        replace h2 := h2.2 z
        obtain ⟨P1, c1, h1⟩ := h1
        refine ⟨P1, c1, ?_⟩
        intro g74 a4_0 a4_1 x76 a4_2
        replace h1 := h1 g74 a4_0 a4_1 x76 a4_2
        replace h2 := h2 g74 a4_0 x76 a4_2
        obtain ⟨m, hm, hi⟩ := h1
        exact ⟨m, hm, hi, h2⟩
    · replace h1 := h1.2 z
      replace h2 := h2.2 z
      obtain ⟨P1, c1, h1⟩ := h1
      refine ⟨P1, c1, ?_⟩
      intro x83 a3_0 a3_1 g86 a3_2 a3_3
      replace h1 := h1 x83 a3_0 a3_1 g86 a3_2 a3_3
      replace h2 := h2 x83 a3_0 a3_1 g86 a3_2
      refine ⟨fun z => ?_, fun z => ?_⟩
      · replace h1 := h1.1 z
        replace h2 := h2.1 z
        exact ⟨h1, h2⟩
      · replace h1 := h1.2 z
        replace h2 := h2.2 z
        obtain ⟨P1, c1, h1⟩ := h1
        refine ⟨P1, c1, ?_⟩
        intro g94 a4_0 a4_1 x96 a4_2
        replace h1 := h1 g94 a4_0 a4_1 x96 a4_2
        replace h2 := h2 g94 a4_0 x96 a4_2
        obtain ⟨m, hm, hi⟩ := h1
        exact ⟨m, hm, hi, h2⟩
set_option maxRecDepth 100000 in
def p_1301_c6 (s0 : zF) (Q : Int → zF → Prop) : Prop :=
  ∃ (I2 : zF → Int → Prop) (I28 : zF → Int → Prop) (I167 : zF → Int → Int → Prop),
    (I2 s0 0) ∧
    (∀ (g : zF) (v2_2 : Int), zFr [(2, 3, 0), (2, 3, 1), (20, 21, 1), (41, 42, 1), (21, 22, 1000), (42, 43, 1000), (2, 3, 7)] s0 g → 0 ≤ v2_2 → v2_2 ≤ 1601 → I2 g v2_2 → (1600 < v2_2 → I28 g v2_2) ∧ (v2_2 ≤ 1600 → ∀ x7 : Int, (-1) ≤ x7 → x7 ≤ 26 → ∀ g10 : zF, zFr [] g g10 → (¬ x7 = 23 → I28 g10 v2_2) ∧ (x7 = 23 → ∀ g18 : zF, zFr [(2, 3, 7)] g10 g18 → ∀ x20 : Int, x20 = v2_2 + 1 → I2 g18 x20))) ∧
    (∀ (g : zF) (v28_2 : Int), zFr [(2, 3, 0), (2, 3, 1), (20, 21, 1), (41, 42, 1), (21, 22, 1000), (42, 43, 1000), (2, 3, 7)] s0 g → 0 ≤ v28_2 → v28_2 ≤ 1601 → I28 g v28_2 → ∀ x27 : Int, 0 ≤ x27 → x27 ≤ 1 → ∀ g30 : zF, zFr [] g g30 → (¬ x27 = 0 → ∀ g38 : zF, zFr [(2, 3, 7)] g30 g38 → ∃ P42 : Int → zF → Prop, p_1300_c7 g38 P42 ∧ ∀ x45 : Int, 0 ≤ x45 → x45 ≤ 1 → ∀ g48 : zF, zFr [(2, 3, 0), (2, 3, 1), (20, 21, 1), (41, 42, 1), (21, 22, 1000), (42, 43, 1000), (2, 3, 7)] g38 g48 → P42 x45 g48 → (¬ x45 = 0 → ∀ x56 : Int, 0 ≤ x56 → x56 ≤ 1 → ∀ g59 : zF, zFr [] g48 g59 → (¬ x56 = 0 → ∀ g67 : zF, zFr [(2, 3, 7)] g59 g67 → ∀ x69 : Int, 0 ≤ x69 → x69 < 2 → x69 = v28_2 % 2 → (¬ x69 = 1 → Q 1 g67) ∧ (x69 = 1 → ∀ b74 : Nat, (b74 : Int) = g67 (2) 8 → (b74 = 7 ∨ b74 = 28) → ∀ g83 : zF, zFr [(b74 + 13, b74 + 14, 1), (b74 + 14, b74 + 15, 1000)] g67 g83 → Q 1 g83)) ∧ (x56 = 0 → ∀ x90 : Int, 0 ≤ x90 → x90 ≤ 0 → ∀ g93 : zF, zFr [(2, 3, 0), (2, 3, 1)] g59 g93 → Q x90 g93)) ∧ (x45 = 0 → Q 0 g48)) ∧ (x27 = 0 → ∀ x100 : Int, (-1) ≤ x100 → x100 ≤ 26 → ∀ g103 : zF, zFr [] g30 g103 → (¬ x100 = 24 → ∃ P108 : Int → zF → Prop, p_1297_c6 g103 P108 ∧ ∀ x111 : Int, 0 ≤ x111 → x111 ≤ 1 → ∀ g114 : zF, zFr [(2, 3, 0), (2, 3, 1), (20, 21, 1), (41, 42, 1), (21, 22, 1000), (42, 43, 1000), (2, 3, 7)] g103 g114 → P108 x111 g114 → (¬ x111 = 0 → ∀ x122 : Int, 0 ≤ x122 → x122 ≤ 1 → ∀ g125 : zF, zFr [] g114 g125 → (¬ x122 = 0 → I167 g125 v28_2 (-14)) ∧ (x122 = 0 → ∀ x133 : Int, 0 ≤ x133 → x133 ≤ 1 → ∀ g136 : zF, zFr [] g125 g136 → (¬ x133 = 0 → I167 g136 v28_2 (-15)) ∧ (x133 = 0 → ∀ x144 : Int, 0 ≤ x144 → x144 ≤ 1 → ∀ g147 : zF, zFr [] g136 g147 → (¬ x144 = 0 → I167 g147 v28_2 (-16)) ∧ (x144 = 0 → I167 g147 v28_2 0)))) ∧ (x111 = 0 → Q 0 g114)) ∧ (x100 = 24 → ∀ g155 : zF, zFr [(2, 3, 7)] g103 g155 → ∀ b157 : Nat, (b157 : Int) = g155 (2) 8 → (b157 = 7 ∨ b157 = 28) → ∀ g166 : zF, zFr [(b157 + 13, b157 + 14, 1), (b157 + 14, b157 + 15, 1000)] g155 g166 → ∀ x168 : Int, 0 ≤ x168 → x168 < 2 → x168 = v28_2 % 2 → (¬ x168 = 1 → Q 1 g166) ∧ (x168 = 1 → ∀ g179 : zF, zFr [(b157 + 13, b157 + 14, 1), (b157 + 14, b157 + 15, 1000)] g166 g179 → Q 1 g179)))) ∧
    (∀ (g : zF) (v167_2 : Int) (s167_0 : Int), zFr [(2, 3, 0), (2, 3, 1), (20, 21, 1), (41, 42, 1), (21, 22, 1000), (42, 43, 1000), (2, 3, 7)] s0 g → 0 ≤ v167_2 → v167_2 ≤ 1601 → (-16) ≤ s167_0 → s167_0 ≤ 0 → I167 g v167_2 s167_0 → (¬ s167_0 = 0 → ∀ g187 : zF, zFr [(2, 3, 7)] g g187 → ∃ P191 : Int → zF → Prop, p_1297_c6 g187 P191 ∧ ∀ x194 : Int, 0 ≤ x194 → x194 ≤ 1 → ∀ g197 : zF, zFr [(2, 3, 0), (2, 3, 1), (20, 21, 1), (41, 42, 1), (21, 22, 1000), (42, 43, 1000), (2, 3, 7)] g187 g197 → P191 x194 g197 → (¬ x194 = 0 → ∀ b200 : Nat, (b200 : Int) = g197 (2) 8 → (b200 = 7 ∨ b200 = 28) → ∀ g209 : zF, zFr [(b200 + 13, b200 + 14, 1), (b200 + 14, b200 + 15, 1000)] g197 g209 → ∀ x211 : Int, 0 ≤ x211 → x211 < 2 → x211 = v167_2 % 2 → (¬ x211 = 1 → Q 1 g209) ∧ (x211 = 1 → ∀ g222 : zF, zFr [(b200 + 13, b200 + 14, 1), (b200 + 14, b200 + 15, 1000)] g209 g222 → Q 1 g222)) ∧ (x194 = 0 → Q 0 g197)) ∧ (s167_0 = 0 → ∀ x229 : Int, 0 ≤ x229 → x229 ≤ 0 → ∀ g232 : zF, zFr [(2, 3, 0), (2, 3, 1)] g g232 → Q x229 g232))
set_option maxRecDepth 100000 in
theorem cj_1301_c6 {s0 : zF} {Q1 Q2 : Int → zF → Prop} (h1 : b_1301_c6 s0 Q1) (h2 : p_1301_c6 s0 Q2) : b_1301_c6 s0 (fun v g => Q1 v g ∧ Q2 v g) := by
  obtain ⟨I2, I28, I167, h1E, h1_0, h1_1, h1_2⟩ := h1
  obtain ⟨J2, J28, J167, h2E, h2_0, h2_1, h2_2⟩ := h2
  refine ⟨fun n g y0 => I2 n g y0 ∧ J2 g y0, fun n g y0 => I28 n g y0 ∧ J28 g y0, fun n g y0 y1 => I167 n g y0 y1 ∧ J167 g y0 y1, ?_, ?_, ?_, ?_⟩
  · have h1 := h1E
    have h2 := h2E
    clear h1E h2E h1_0 h2_0 h1_1 h2_1 h1_2 h2_2
    obtain ⟨m, hi⟩ := h1
    exact ⟨m, hi, h2⟩
  · intro n g v2_2 e0 e1 e2 hI
    have h1 := h1_0 n g v2_2 e0 e1 e2 hI.1
    have h2 := h2_0 g v2_2 e0 e1 e2 hI.2
    clear h1E h2E hI h1_0 h2_0 h1_1 h2_1 h1_2 h2_2
    refine ⟨fun z => ?_, fun z => ?_⟩
    · replace h1 := h1.1 z
      replace h2 := h2.1 z
      obtain ⟨m, hm, hi⟩ := h1
      exact ⟨m, hm, hi, h2⟩
    · replace h1 := h1.2 z
      replace h2 := h2.2 z
      obtain ⟨P1, c1, h1⟩ := h1
      refine ⟨P1, c1, ?_⟩
      intro x7 a3_0 a3_1 g10 a3_2 a3_3
      replace h1 := h1 x7 a3_0 a3_1 g10 a3_2 a3_3
      replace h2 := h2 x7 a3_0 a3_1 g10 a3_2
      refine ⟨fun z => ?_, fun z => ?_⟩
      · replace h1 := h1.1 z
        replace h2 := h2.1 z
        obtain ⟨m, hm, hi⟩ := h1
        exact ⟨m, hm, hi, h2⟩
      · replace h1 := h1.2 z
        replace h2 := h2.2 z
        obtain ⟨P1, c1, h1⟩ := h1
        refine ⟨P1, c1, ?_⟩
        intro g18 a4_0 a4_1 x20 a4_2
        replace h1 := h1 g18 a4_0 a4_1 x20 a4_2
        replace h2 := h2 g18 a4_0 x20 a4_2
        obtain ⟨m, hm, hi⟩ := h1
        exact ⟨m, hm, hi, h2⟩
  · intro n g v28_2 e0 e1 e2 hI
    have h1 := h1_1 n g v28_2 e0 e1 e2 hI.1
    have h2 := h2_1 g v28_2 e0 e1 e2 hI.2
    clear h1E h2E hI h1_0 h2_0 h1_1 h2_1 h1_2 h2_2
    obtain ⟨P1, c1, h1⟩ := h1
    refine ⟨P1, c1, ?_⟩
    intro x27 a2_0 a2_1 g30 a2_2 a2_3
    replace h1 := h1 x27 a2_0 a2_1 g30 a2_2 a2_3
    replace h2 := h2 x27 a2_0 a2_1 g30 a2_2
    refine ⟨fun z => ?_, fun z => ?_⟩
    · replace h1 := h1.1 z
      replace h2 := h2.1 z
      obtain ⟨P1, c1, h1⟩ := h1
      refine ⟨P1, c1, ?_⟩
      intro g38 a3_0 a3_1
      replace h1 := h1 g38 a3_0 a3_1
      replace h2 := h2 g38 a3_0
      obtain ⟨P1, c1, h1⟩ := h1
      obtain ⟨P2, c2, h2⟩ := h2
      refine ⟨fun v g => P1 v g ∧ P2 v g, cj_1300_c7 c1 c2, ?_⟩
      intro x45 a3_0 a3_1 g48 a3_2 a3_3
      replace h1 := h1 x45 a3_0 a3_1 g48 a3_2 a3_3.1
      replace h2 := h2 x45 a3_0 a3_1 g48 a3_2 a3_3.2
      refine ⟨fun z => ?_, fun z => ?_⟩
      · replace h1 := h1.1 z
        replace h2 := h2.1 z
        obtain ⟨P1, c1, h1⟩ := h1
        refine ⟨P1, c1, ?_⟩
        intro x56 a4_0 a4_1 g59 a4_2 a4_3
        replace h1 := h1 x56 a4_0 a4_1 g59 a4_2 a4_3
        replace h2 := h2 x56 a4_0 a4_1 g59 a4_2
        refine ⟨fun z => ?_, fun z => ?_⟩
        · replace h1 := h1.1 z
          replace h2 := h2.1 z
          obtain ⟨P1, c1, h1⟩ := h1
          refine ⟨P1, c1, ?_⟩
          intro g67 a5_0 a5_1 x69 a5_2 a5_3 a5_4
          replace h1 := h1 g67 a5_0 a5_1 x69 a5_2 a5_3 a5_4
          replace h2 := h2 g67 a5_0 x69 a5_2 a5_3 a5_4
          refine ⟨fun z => ?_, fun z => ?_⟩
          · replace h1 := h1.1 z
            replace h2 := h2.1 z
            exact ⟨h1, h2⟩
          · replace h1 := h1.2 z
            replace h2 := h2.2 z
            intro b74 a6_0 a6_1
            replace h1 := h1 b74 a6_0 a6_1
            replace h2 := h2 b74 a6_0 a6_1
            obtain ⟨P1, c1, h1⟩ := h1
            refine ⟨P1, c1, ?_⟩
            intro g83 a6_0 a6_1
            replace h1 := h1 g83 a6_0 a6_1
            replace h2 := h2 g83 a6_0
            exact ⟨h1, h2⟩
        · replace h1 := h1.2 z
          replace h2 := h2.2 z
          obtain ⟨P1, c1, h1⟩ := h1
          refine ⟨P1, c1, ?_⟩
          intro x90 a5_0 a5_1 g93 a5_2 a5_3
          replace h1 := h1 x90 a5_0 a5_1 g93 a5_2 a5_3
          replace h2 := h2 x90 a5_0 a5_1 g93 a5_2
          exact ⟨h1, h2⟩
      · replace h1 := h1.2 z
        replace h2 := h2.2 z
        exact ⟨h1, h2⟩
    · replace h1 := h1.2 z
      replace h2 := h2.2 z
      obtain ⟨P1, c1, h1⟩ := h1
      refine ⟨P1, c1, ?_⟩
      intro x100 a3_0 a3_1 g103 a3_2 a3_3
      replace h1 := h1 x100 a3_0 a3_1 g103 a3_2 a3_3
      replace h2 := h2 x100 a3_0 a3_1 g103 a3_2
      refine ⟨fun z => ?_, fun z => ?_⟩
      · replace h1 := h1.1 z
        replace h2 := h2.1 z
        obtain ⟨P1, c1, h1⟩ := h1
        obtain ⟨P2, c2, h2⟩ := h2
        refine ⟨fun v g => P1 v g ∧ P2 v g, cj_1297_c6 c1 c2, ?_⟩
        intro x111 a4_0 a4_1 g114 a4_2 a4_3
        replace h1 := h1 x111 a4_0 a4_1 g114 a4_2 a4_3.1
        replace h2 := h2 x111 a4_0 a4_1 g114 a4_2 a4_3.2
        refine ⟨fun z => ?_, fun z => ?_⟩
        · replace h1 := h1.1 z
          replace h2 := h2.1 z
          obtain ⟨P1, c1, h1⟩ := h1
          refine ⟨P1, c1, ?_⟩
          intro x122 a5_0 a5_1 g125 a5_2 a5_3
          replace h1 := h1 x122 a5_0 a5_1 g125 a5_2 a5_3
          replace h2 := h2 x122 a5_0 a5_1 g125 a5_2
          refine ⟨fun z => ?_, fun z => ?_⟩
          · replace h1 := h1.1 z
            replace h2 := h2.1 z
            obtain ⟨m, hm, hi⟩ := h1
            exact ⟨m, hm, hi, h2⟩
          · replace h1 := h1.2 z
            replace h2 := h2.2 z
            obtain ⟨P1, c1, h1⟩ := h1
            refine ⟨P1, c1, ?_⟩
            intro x133 a6_0 a6_1 g136 a6_2 a6_3
            replace h1 := h1 x133 a6_0 a6_1 g136 a6_2 a6_3
            replace h2 := h2 x133 a6_0 a6_1 g136 a6_2
            refine ⟨fun z => ?_, fun z => ?_⟩
            · replace h1 := h1.1 z
              replace h2 := h2.1 z
              obtain ⟨m, hm, hi⟩ := h1
              exact ⟨m, hm, hi, h2⟩
            · replace h1 := h1.2 z
              replace h2 := h2.2 z
              obtain ⟨P1, c1, h1⟩ := h1
              refine ⟨P1, c1, ?_⟩
              intro x144 a7_0 a7_1 g147 a7_2 a7_3
              replace h1 := h1 x144 a7_0 a7_1 g147 a7_2 a7_3
              replace h2 := h2 x144 a7_0 a7_1 g147 a7_2
              refine ⟨fun z => ?_, fun z => ?_⟩
              · replace h1 := h1.1 z
                replace h2 := h2.1 z
                obtain ⟨m, hm, hi⟩ := h1
                exact ⟨m, hm, hi, h2⟩
              · replace h1 := h1.2 z
                replace h2 := h2.2 z
                obtain ⟨m, hm, hi⟩ := h1
                exact ⟨m, hm, hi, h2⟩
        · replace h1 := h1.2 z
          replace h2 := h2.2 z
          exact ⟨h1, h2⟩
      · replace h1 := h1.2 z
        replace h2 := h2.2 z
        obtain ⟨P1, c1, h1⟩ := h1
        refine ⟨P1, c1, ?_⟩
        intro g155 a4_0 a4_1 b157 a4_2 a4_3
        replace h1 := h1 g155 a4_0 a4_1 b157 a4_2 a4_3
        replace h2 := h2 g155 a4_0 b157 a4_2 a4_3
        obtain ⟨P1, c1, h1⟩ := h1
        refine ⟨P1, c1, ?_⟩
        intro g166 a4_0 a4_1 x168 a4_2 a4_3 a4_4
        replace h1 := h1 g166 a4_0 a4_1 x168 a4_2 a4_3 a4_4
        replace h2 := h2 g166 a4_0 x168 a4_2 a4_3 a4_4
        refine ⟨fun z => ?_, fun z => ?_⟩
        · replace h1 := h1.1 z
          replace h2 := h2.1 z
          exact ⟨h1, h2⟩
        · replace h1 := h1.2 z
          replace h2 := h2.2 z
          obtain ⟨P1, c1, h1⟩ := h1
          refine ⟨P1, c1, ?_⟩
          intro g179 a5_0 a5_1
          replace h1 := h1 g179 a5_0 a5_1
          replace h2 := h2 g179 a5_0
          exact ⟨h1, h2⟩
  · intro n g v167_2 s167_0 e0 e1 e2 e3 e4 hI
    have h1 := h1_2 n g v167_2 s167_0 e0 e1 e2 e3 e4 hI.1
    have h2 := h2_2 g v167_2 s167_0 e0 e1 e2 e3 e4 hI.2
    clear h1E h2E hI h1_0 h2_0 h1_1 h2_1 h1_2 h2_2
    refine ⟨fun z => ?_, fun z => ?_⟩
    · replace h1 := h1.1 z
      replace h2 := h2.1 z
      obtain ⟨P1, c1, h1⟩ := h1
      refine ⟨P1, c1, ?_⟩
      intro g187 a3_0 a3_1
      replace h1 := h1 g187 a3_0 a3_1
      replace h2 := h2 g187 a3_0
      obtain ⟨P1, c1, h1⟩ := h1
      obtain ⟨P2, c2, h2⟩ := h2
      refine ⟨fun v g => P1 v g ∧ P2 v g, cj_1297_c6 c1 c2, ?_⟩
      intro x194 a3_0 a3_1 g197 a3_2 a3_3
      replace h1 := h1 x194 a3_0 a3_1 g197 a3_2 a3_3.1
      replace h2 := h2 x194 a3_0 a3_1 g197 a3_2 a3_3.2
      refine ⟨fun z => ?_, fun z => ?_⟩
      · replace h1 := h1.1 z
        replace h2 := h2.1 z
        intro b200 a4_0 a4_1
        replace h1 := h1 b200 a4_0 a4_1
        replace h2 := h2 b200 a4_0 a4_1
        obtain ⟨P1, c1, h1⟩ := h1
        refine ⟨P1, c1, ?_⟩
        intro g209 a4_0 a4_1 x211 a4_2 a4_3 a4_4
        replace h1 := h1 g209 a4_0 a4_1 x211 a4_2 a4_3 a4_4
        replace h2 := h2 g209 a4_0 x211 a4_2 a4_3 a4_4
        refine ⟨fun z => ?_, fun z => ?_⟩
        · replace h1 := h1.1 z
          replace h2 := h2.1 z
          exact ⟨h1, h2⟩
        · replace h1 := h1.2 z
          replace h2 := h2.2 z
          obtain ⟨P1, c1, h1⟩ := h1
          refine ⟨P1, c1, ?_⟩
          intro g222 a5_0 a5_1
          replace h1 := h1 g222 a5_0 a5_1
          replace h2 := h2 g222 a5_0
          exact ⟨h1, h2⟩
      · replace h1 := h1.2 z
        replace h2 := h2.2 z
        exact ⟨h1, h2⟩
    · replace h1 := h1.2 z
      replace h2 := h2.2 z
      obtain ⟨P1, c1, h1⟩ := h1
      refine ⟨P1, c1, ?_⟩
      intro x229 a3_0 a3_1 g232 a3_2 a3_3
      replace h1 := h1 x229 a3_0 a3_1 g232 a3_2 a3_3
      replace h2 := h2 x229 a3_0 a3_1 g232 a3_2
      exact ⟨h1, h2⟩
set_option maxRecDepth 100000 in
def p_1300_c6 (s0 : zF) (Q : Int → zF → Prop) : Prop :=
  ∃ (I2 : zF → Int → Prop) (I11 : zF → Int → Int → Prop) (I44 : zF → Int → Int → Prop) (I66 : zF → Int → Prop),
    (I2 s0 0) ∧
    (∀ (g : zF) (v2_2 : Int), zFr [(2, 3, 0), (2, 3, 1), (20, 21, 1), (41, 42, 1), (21, 22, 1000), (42, 43, 1000), (2, 3, 7)] s0 g → 0 ≤ v2_2 → v2_2 ≤ 1601 → I2 g v2_2 → (1600 < v2_2 → Q 1 g) ∧ (v2_2 ≤ 1600 → I11 g v2_2 0)) ∧
    (∀ (g : zF) (v11_2 : Int) (v11_3 : Int), zFr [(2, 3, 0), (2, 3, 1), (20, 21, 1), (41, 42, 1), (21, 22, 1000), (42, 43, 1000), (2, 3, 7)] s0 g → 0 ≤ v11_2 → v11_2 ≤ 1600 → 0 ≤ v11_3 → v11_3 ≤ 1601 → I11 g v11_2 v11_3 → (1600 < v11_3 → I66 g v11_2) ∧ (v11_3 ≤ 1600 → ∃ P5 : Int → zF → Prop, p_1301_c6 g P5 ∧ ∀ x8 : Int, 0 ≤ x8 → x8 ≤ 1 → ∀ g11 : zF, zFr [(2, 3, 0), (2, 3, 1), (20, 21, 1), (41, 42, 1), (21, 22, 1000), (42, 43, 1000), (2, 3, 7)] g g11 → P5 x8 g11 → (¬ x8 = 0 → (0 < v11_3 → ∀ b15 : Nat, (b15 : Int) = g11 (2) 8 → (b15 = 7 ∨ b15 = 28) → ∀ g24 : zF, zFr [(b15 + 13, b15 + 14, 1), (b15 + 14, b15 + 15, 1000)] g11 g24 → I44 g24 v11_2 v11_3) ∧ (v11_3 ≤ 0 → I44 g11 v11_2 v11_3)) ∧ (x8 = 0 → Q 0 g11))) ∧
    (∀ (g : zF) (v44_2 : Int) (v44_3 : Int), zFr [(2, 3, 0), (2, 3, 1), (20, 21, 1), (41, 42, 1), (21, 22, 1000), (42, 43, 1000), (2, 3, 7)] s0 g → 0 ≤ v44_2 → v44_2 ≤ 1600 → 0 ≤ v44_3 → v44_3 ≤ 1600 → I44 g v44_2 v44_3 → ∀ x31 : Int, (-1) ≤ x31 → x31 ≤ 26 → ∀ g34 : zF, zFr [] g g34 → (¬ x31 = 22 → I66 g34 v44_2) ∧ (x31 = 22 → ∀ g42 : zF, zFr [(2, 3, 7)] g34 g42 → ∀ x44 : Int, x44 = v44_3 + 1 → I11 g42 v44_2 x44)) ∧
    (∀ (g : zF) (v66_2 : Int), zFr [(2, 3, 0), (2, 3, 1), (20, 21, 1), (41, 42, 1), (21, 22, 1000), (42, 43, 1000), (2, 3, 7)] s0 g → 0 ≤ v66_2 → v66_2 ≤ 1600 → I66 g v66_2 → (0 < v66_2 → ∀ b47 : Nat, (b47 : Int) = g (2) 8 → (b47 = 7 ∨ b47 = 28) → ∀ g56 : zF, zFr [(b47 + 13, b47 + 14, 1), (b47 + 14, b47 + 15, 1000)] g g56 → ∀ x63 : Int, (-1) ≤ x63 → x63 ≤ 26 → ∀ g66 : zF, zFr [] g56 g66 → (¬ x63 = 21 → Q 1 g66) ∧ (x63 = 21 → ∀ g74 : zF, zFr [(2, 3, 7)] g66 g74 → ∀ x76 : Int, x76 = v66_2 + 1 → I2 g74 x76)) ∧ (v66_2 ≤ 0 → ∀ x83 : Int, (-1) ≤ x83 → x83 ≤ 26 → ∀ g86 : zF, zFr [] g g86 → (¬ x83 = 21 → Q 1 g86) ∧ (x83 = 21 → ∀ g94 : zF, zFr [(2, 3, 7)] g86 g94 → ∀ x96 : Int, x96 = v66_2 + 1 → I2 g94 x96)))
set_option maxRecDepth 100000 in
theorem cj_1300_c6 {s0 : zF} {Q1 Q2 : Int → zF → Prop} (h1 : b_1300_c6 s0 Q1) (h2 : p_1300_c6 s0 Q2) : b_1300_c6 s0 (fun v g => Q1 v g ∧ Q2 v g) := by
  obtain ⟨I2, I11, I44, I66, h1E, h1_0, h1_1, h1_2, h1_3⟩ := h1
  obtain ⟨J2, J11, J44, J66, h2E, h2_0, h2_1, h2_2, h2_3⟩ := h2
  refine ⟨fun n g y0 => I2 n g y0 ∧ J2 g y0, fun n g y0 y1 => I11 n g y0 y1 ∧ J11 g y0 y1, fun n g y0 y1 => I44 n g y0 y1 ∧ J44 g y0 y1, fun n g y0 => I66 n g y0 ∧ J66 g y0, ?_, ?_, ?_, ?_, ?_⟩
  · have h1 := h1E
    have h2 := h2E
    clear h1E h2E h1_0 h2_0 h1_1 h2_1 h1_2 h2_2 h1_3 h2_3
    obtain ⟨m, hi⟩ := h1
    exact ⟨m, hi, h2⟩
  · intro n g v2_2 e0 e1 e2 hI
    have h1 := h1_0 n g v2_2 e0 e1 e2 hI.1
    have h2 := h2_0 g v2_2 e0 e1 e2 hI.2
    clear h1E h2E hI h1_0 h2_0 h1_1 h2_1 h1_2 h2_2 h1_3 h2_3
    refine ⟨fun z => ?_, fun z => ?_⟩
    · replace h1 := h1.1 z
      replace h2 := h2.1 z
      exact ⟨h1, h2⟩
    · replace h1 := h1.2 z
      replace h2 := h2.2 z
      obtain ⟨m, hm, hi⟩ := h1
      exact ⟨m, hm, hi, h2⟩
  · intro n g v11_2 v11_3 e0 e1 e2 e3 e4 hI
    have h1 := h1_1 n g v11_2 v11_3 e0 e1 e2 e3 e4 hI.1
    have h2 := h2_1 g v11_2 v11_3 e0 e1 e2 e3 e4 hI.2
    clear h1E h2E hI h1_0 h2_0 h1_1 h2_1 h1_2 h2_2 h1_3 h2_3
    refine ⟨fun z => ?_, fun z => ?_⟩
    · replace h1 := h1.1 z
      replace h2 := h2.1 z
      obtain ⟨m, hm, hi⟩ := h1
      exact ⟨m, hm, hi, h2⟩
    · replace h1 := h1.2 z
      replace h2 := h2.2 z
      obtain ⟨P1, c1, h1⟩ := h1
      obtain ⟨P2, c2, h2⟩ := h2
      refine ⟨fun v g => P1 v g ∧ P2 v g, cj_1301_c6 c1 c2, ?_⟩
      intro x8 a3_0 a3_1 g11 a3_2 a3_3
      replace h1 := h1 x8 a3_0 a3_1 g11 a3_2 a3_3.1
      replace h2 := h2 x8 a3_0 a3_1 g11 a3_2 a3_3.2
      refine ⟨fun z => ?_, fun z => ?_⟩
      · replace h1 := h1.1 z
        replace h2 := h2.1 z
        refine ⟨fun z => ?_, fun z => ?_⟩
        · replace h1 := h1.1 z
          replace h2 := h2.1 z
          intro b15 a5_0 a5_1
          replace h1 := h1 b15 a5_0 a5_1
          replace h2 := h2 b15 a5_0 a5_1
          obtain ⟨P1, c1, h1⟩ := h1
          refine ⟨P1, c1, ?_⟩
          intro g24 a5_0 a5_1
          replace h1 := h1 g24 a5_0 a5_1
          replace h2 := h2 g24 a5_0
          obtain ⟨m, hm, hi⟩ := h1
          exact ⟨m, hm, hi, h2⟩
        · replace h1 := h1.2 z
          replace h2 := h2.2 z
          obtain ⟨m, hm, hi⟩ := h1
          exact ⟨m, hm, hi, h2⟩
      · replace h1 := h1.2 z
        replace h2 := h2.2 z
        exact ⟨h1, h2⟩
  · intro n g v44_2 v44_3 e0 e1 e2 e3 e4 hI
    have h1 := h1_2 n g v44_2 v44_3 e0 e1 e2 e3 e4 hI.1
    have h2 := h2_2 g v44_2 v44_3 e0 e1 e2 e3 e4 hI.2
    clear h1E h2E hI h1_0 h2_0 h1_1 h2_1 h1_2 h2_2 h1_3 h2_3
    obtain ⟨P1, c1, h1⟩ := h1
    refine ⟨P1, c1, ?_⟩
    intro x31 a2_0 a2_1 g34 a2_2 a2_3
    replace h1 := h1 x31 a2_0 a2_1 g34 a2_2 a2_3
    replace h2 := h2 x31 a2_0 a2_1 g34 a2_2
    refine ⟨fun z => ?_, fun z => ?_⟩
    · replace h1 := h1.1 z
      replace h2 := h2.1 z
      obtain ⟨m, hm, hi⟩ := h1
      exact ⟨m, hm, hi, h2⟩
    · replace h1 := h1.2 z
      replace h2 := h2.2 z
      obtain ⟨P1, c1, h1⟩ := h1
      refine ⟨P1, c1, ?_⟩
      intro g42 a3_0 a3_1 x44 a3_2
      replace h1 := h1 g42 a3_0 a3_1 x44 a3_2
      replace h2 := h2 g42 a3_0 x44 a3_2
      obtain ⟨m, hm, hi⟩ := h1
      exact ⟨m, hm, hi, h2⟩
  · intro n g v66_2 e0 e1 e2 hI
    have h1 := h1_3 n g v66_2 e0 e1 e2 hI.1
    have h2 := h2_3 g v66_2 e0 e1 e2 hI.2
    clear h1E h2E hI h1_0 h2_0 h1_1 h2_1 h1_2 h2_2 h1_3 h2_3
    refine ⟨fun z => ?_, fun z => ?_⟩
    · replace h1 := h1.1 z
      replace h2 := h2.1 z
      intro b47 a3_0 a3_1
      replace h1 := h1 b47 a3_0 a3_1
      replace h2 := h2 b47 a3_0 a3_1
      obtain ⟨P1, c1, h1⟩ := h1
      refine ⟨P1, c1, ?_⟩
      intro g56 a3_0 a3_1
      replace h1 := h1 g56 a3_0 a3_1
      replace h2 := h2 g56 a3_0
      obtain ⟨P1, c1, h1⟩ := h1
      refine ⟨P1, c1, ?_⟩
      intro x63 a3_0 a3_1 g66 a3_2 a3_3
      replace h1 := h1 x63 a3_0 a3_1 g66 a3_2 a3_3
      replace h2 := h2 x63 a3_0 a3_1 g66 a3_2
      refine ⟨fun z => ?_, fun z => ?_⟩
      · replace h1 := h1.1 z
        replace h2 := h2.1 z
        exact ⟨h1, h2⟩
      · replace h1 := h1.2 z
        replace h2 := h2.2 z
        obtain ⟨P1, c1, h1⟩ := h1
        refine ⟨P1, c1, ?_⟩
        intro g74 a4_0 a4_1 x76 a4_2
        replace h1 := h1 g74 a4_0 a4_1 x76 a4_2
        replace h2 := h2 g74 a4_0 x76 a4_2
        obtain ⟨m, hm, hi⟩ := h1
        exact ⟨m, hm, hi, h2⟩
    · replace h1 := h1.2 z
      replace h2 := h2.2 z
      obtain ⟨P1, c1, h1⟩ := h1
      refine ⟨P1, c1, ?_⟩
      intro x83 a3_0 a3_1 g86 a3_2 a3_3
      replace h1 := h1 x83 a3_0 a3_1 g86 a3_2 a3_3
      replace h2 := h2 x83 a3_0 a3_1 g86 a3_2
      refine ⟨fun z => ?_, fun z => ?_⟩
      · replace h1 := h1.1 z
        replace h2 := h2.1 z
        exact ⟨h1, h2⟩
      · replace h1 := h1.2 z
        replace h2 := h2.2 z
        obtain ⟨P1, c1, h1⟩ := h1
        refine ⟨P1, c1, ?_⟩
        intro g94 a4_0 a4_1 x96 a4_2
        replace h1 := h1 g94 a4_0 a4_1 x96 a4_2
        replace h2 := h2 g94 a4_0 x96 a4_2
        obtain ⟨m, hm, hi⟩ := h1
        exact ⟨m, hm, hi, h2⟩
set_option maxRecDepth 100000 in
def p_1301_c5 (s0 : zF) (Q : Int → zF → Prop) : Prop :=
  ∃ (I2 : zF → Int → Prop) (I28 : zF → Int → Prop) (I167 : zF → Int → Int → Prop),
    (I2 s0 0) ∧
    (∀ (g : zF) (v2_2 : Int), zFr [(2, 3, 0), (2, 3, 1), (20, 21, 1), (41, 42, 1), (21, 22, 1000), (42, 43, 1000), (2, 3, 7)] s0 g → 0 ≤ v2_2 → v2_2 ≤ 1601 → I2 g v2_2 → (1600 < v2_2 → I28 g v2_2) ∧ (v2_2 ≤ 1600 → ∀ x7 : Int, (-1) ≤ x7 → x7 ≤ 26 → ∀ g10 : zF, zFr [] g g10 → (¬ x7 = 23 → I28 g10 v2_2) ∧ (x7 = 23 → ∀ g18 : zF, zFr [(2, 3, 7)] g10 g18 → ∀ x20 : Int, x20 = v2_2 + 1 → I2 g18 x20))) ∧
    (∀ (g : zF) (v28_2 : Int), zFr [(2, 3, 0), (2, 3, 1), (20, 21, 1), (41, 42, 1), (21, 22, 1000), (42, 43, 1000), (2, 3, 7)] s0 g → 0 ≤ v28_2 → v28_2 ≤ 1601 → I28 g v28_2 → ∀ x27 : Int, 0 ≤ x27 → x27 ≤ 1 → ∀ g30 : zF, zFr [] g g30 → (¬ x27 = 0 → ∀ g38 : zF, zFr [(2, 3, 7)] g30 g38 → ∃ P42 : Int → zF → Prop, p_1300_c6 g38 P42 ∧ ∀ x45 : Int, 0 ≤ x45 → x45 ≤ 1 → ∀ g48 : zF, zFr [(2, 3, 0), (2, 3, 1), (20, 21, 1), (41, 42, 1), (21, 22, 1000), (42, 43, 1000), (2, 3, 7)] g38 g48 → P42 x45 g48 → (¬ x45 = 0 → ∀ x56 : Int, 0 ≤ x56 → x56 ≤ 1 → ∀ g59 : zF, zFr [] g48 g59 → (¬ x56 = 0 → ∀ g67 : zF, zFr [(2, 3, 7)] g59 g67 → ∀ x69 : Int, 0 ≤ x69 → x69 < 2 → x69 = v28_2 % 2 → (¬ x69 = 1 → Q 1 g67) ∧ (x69 = 1 → ∀ b74 : Nat, (b74 : Int) = g67 (2) 8 → (b74 = 7 ∨ b74 = 28) → ∀ g83 : zF, zFr [(b74 + 13, b74 + 14, 1), (b74 + 14, b74 + 15, 1000)] g67 g83 → Q 1 g83)) ∧ (x56 = 0 → ∀ x90 : Int, 0 ≤ x90 → x90 ≤ 0 → ∀ g93 : zF, zFr [(2, 3, 0), (2, 3, 1)] g59 g93 → Q x90 g93)) ∧ (x45 = 0 → Q 0 g48)) ∧ (x27 = 0 → ∀ x100 : Int, (-1) ≤ x100 → x100 ≤ 26 → ∀ g103 : zF, zFr [] g30 g103 → (¬ x100 = 24 → ∃ P108 : Int → zF → Prop, p_1297_c5 g103 P108 ∧ ∀ x111 : Int, 0 ≤ x111 → x111 ≤ 1 → ∀ g114 : zF, zFr [(2, 3, 0), (2, 3, 1), (20, 21, 1), (41, 42, 1), (21, 22, 1000), (42, 43, 1000), (2, 3, 7)] g103 g114 → P108 x111 g114 → (¬ x111 = 0 → ∀ x122 : Int, 0 ≤ x122 → x122 ≤ 1 → ∀ g125 : zF, zFr [] g114 g125 → (¬ x122 = 0 → I167 g125 v28_2 (-14)) ∧ (x122 = 0 → ∀ x133 : Int, 0 ≤ x133 → x133 ≤ 1 → ∀ g136 : zF, zFr [] g125 g136 → (¬ x133 = 0 → I167 g136 v28_2 (-15)) ∧ (x133 = 0 → ∀ x144 : Int, 0 ≤ x144 → x144 ≤ 1 → ∀ g147 : zF, zFr [] g136 g147 → (¬ x144 = 0 → I167 g147 v28_2 (-16)) ∧ (x144 = 0 → I167 g147 v28_2 0)))) ∧ (x111 = 0 → Q 0 g114)) ∧ (x100 = 24 → ∀ g155 : zF, zFr [(2, 3, 7)] g103 g155 → ∀ b157 : Nat, (b157 : Int) = g155 (2) 8 → (b157 = 7 ∨ b157 = 28) → ∀ g166 : zF, zFr [(b157 + 13, b157 + 14, 1), (b157 + 14, b157 + 15, 1000)] g155 g166 → ∀ x168 : Int, 0 ≤ x168 → x168 < 2 → x168 = v28_2 % 2 → (¬ x168 = 1 → Q 1 g166) ∧ (x168 = 1 → ∀ g179 : zF, zFr [(b157 + 13, b157 + 14, 1), (b157 + 14, b157 + 15, 1000)] g166 g179 → Q 1 g179)))) ∧
    (∀ (g : zF) (v167_2 : Int) (s167_0 : Int), zFr [(2, 3, 0), (2, 3, 1), (20, 21, 1), (41, 42, 1), (21, 22, 1000), (42, 43, 1000), (2, 3, 7)] s0 g → 0 ≤ v167_2 → v167_2 ≤ 1601 → (-16) ≤ s167_0 → s167_0 ≤ 0 → I167 g v167_2 s167_0 → (¬ s167_0 = 0 → ∀ g187 : zF, zFr [(2, 3, 7)] g g187 → ∃ P191 : Int → zF → Prop, p_1297_c5 g187 P191 ∧ ∀ x194 : Int, 0 ≤ x194 → x194 ≤ 1 → ∀ g197 : zF, zFr [(2, 3, 0), (2, 3, 1), (20, 21, 1), (41, 42, 1), (21, 22, 1000), (42, 43, 1000), (2, 3, 7)] g187 g197 → P191 x194 g197 → (¬ x194 = 0 → ∀ b200 : Nat, (b200 : Int) = g197 (2) 8 → (b200 = 7 ∨ b200 = 28) → ∀ g209 : zF, zFr [(b200 + 13, b200 + 14, 1), (b200 + 14, b200 + 15, 1000)] g197 g209 → ∀ x211 : Int, 0 ≤ x211 → x211 < 2 → x211 = v167_2 % 2 → (¬ x211 = 1 → Q 1 g209) ∧ (x211 = 1 → ∀ g222 : zF, zFr [(b200 + 13, b200 + 14, 1), (b200 + 14, b200 + 15, 1000)] g209 g222 → Q 1 g222)) ∧ (x194 = 0 → Q 0 g197)) ∧ (s167_0 = 0 → ∀ x229 : Int, 0 ≤ x229 → x229 ≤ 0 → ∀ g232 : zF, zFr [(2, 3, 0), (2, 3, 1)] g g232 → Q x229 g232))
set_option maxRecDepth 100000 in
theorem cj_1301_c5 {s0 : zF} {Q1 Q2 : Int → zF → Prop} (h1 : b_1301_c5 s0 Q1) (h2 : p_1301_c5 s0 Q2) : b_1301_c5 s0 (fun v g => Q1 v g ∧ Q2 v g) := by
  obtain ⟨I2, I28, I167, h1E, h1_0, h1_1, h1_2⟩ := h1
  obtain ⟨J2, J28, J167, h2E, h2_0, h2_1, h2_2⟩ := h2
  refine ⟨fun n g y0 => I2 n g y0 ∧ J2 g y0, fun n g y0 => I28 n g y0 ∧ J28 g y0, fun n g y0 y1 => I167 n g y0 y1 ∧ J167 g y0 y1, ?_, ?_, ?_, ?_⟩
  · have h1 := h1E
    have h2 := h2E
    clear h1E h2E h1_0 h2_0 h1_1 h2_1 h1_2 h2_2
    obtain ⟨m, hi⟩ := h1
    exact ⟨m, hi, h2⟩
  · intro n g v2_2 e0 e1 e2 hI
    have h1 := h1_0 n g v2_2 e0 e1 e2 hI.1
    have h2 := h2_0 g v2_2 e0 e1 e2 hI.2
    clear h1E h2E hI h1_0 h2_0 h1_1 h2_1 h1_2 h2_2
    refine ⟨fun z => ?_, fun z => ?_⟩
    · replace h1 := h1.1 z
      replace h2 := h2.1 z
      obtain ⟨m, hm, hi⟩ := h1
      exact ⟨m, hm, hi, h2⟩
    · replace h1 := h1.2 z
      replace h2 := h2.2 z
      obtain ⟨P1, c1, h1⟩ := h1
      refine ⟨P1, c1, ?_⟩
      intro x7 a3_0 a3_1 g10 a3_2 a3_3
      replace h1 := h1 x7 a3_0 a3_1 g10 a3_2 a3_3
      replace h2 := h2 x7 a3_0 a3_1 g10 a3_2
      refine ⟨fun z => ?_, fun z => ?_⟩
      · replace h1 := h1.1 z
        replace h2 := h2.1 z
        obtain ⟨m, hm, hi⟩ := h1
        exact ⟨m, hm, hi, h2⟩
      · replace h1 := h1.2 z
        replace h2 := h2.2 z
        obtain ⟨P1, c1, h1⟩ := h1
        refine ⟨P1, c1, ?_⟩
        intro g18 a4_0 a4_1 x20 a4_2
        replace h1 := h1 g18 a4_0 a4_1 x20 a4_2
        replace h2 := h2 g18 a4_0 x20 a4_2
        obtain ⟨m, hm, hi⟩ := h1
        exact ⟨m, hm, hi, h2⟩
  · intro n g v28_2 e0 e1 e2 hI
    have h1 := h1_1 n g v28_2 e0 e1 e2 hI.1
    have h2 := h2_1 g v28_2 e0 e1 e2 hI.2
    clear h1E h2E hI h1_0 h2_0 h1_1 h2_1 h1_2 h2_2
    obtain ⟨P1, c1, h1⟩ := h1
    refine ⟨P1, c1, ?_⟩
    intro x27 a2_0 a2_1 g30 a2_2 a2_3
    replace h1 := h1 x27 a2_0 a2_1 g30 a2_2 a2_3
    replace h2 := h2 x27 a2_0 a2_1 g30 a2_2
    refine ⟨fun z => ?_, fun z => ?_⟩
    · replace h1 := h1.1 z
      replace h2 := h2.1 z
      obtain ⟨P1, c1, h1⟩ := h1
      refine ⟨P1, c1, ?_⟩
      intro g38 a3_0 a3_1
      replace h1 := h1 g38 a3_0 a3_1
      replace h2 := h2 g38 a3_0
      obtain ⟨P1, c1, h1⟩ := h1
      obtain ⟨P2, c2, h2⟩ := h2
      refine ⟨fun v g => P1 v g ∧ P2 v g, cj_1300_c6 c1 c2, ?_⟩
      intro x45 a3_0 a3_1 g48 a3_2 a3_3
      replace h1 := h1 x45 a3_0 a3_1 g48 a3_2 a3_3.1
      replace h2 := h2 x45 a3_0 a3_1 g48 a3_2 a3_3.2
      refine ⟨fun z => ?_, fun z => ?_⟩
      · replace h1 := h1.1 z
        replace h2 := h2.1 z
        obtain ⟨P1, c1, h1⟩ := h1
        refine ⟨P1, c1, ?_⟩
        intro x56 a4_0 a4_1 g59 a4_2 a4_3
        replace h1 := h1 x56 a4_0 a4_1 g59 a4_2 a4_3
        replace h2 := h2 x56 a4_0 a4_1 g59 a4_2
        refine ⟨fun z => ?_, fun z => ?_⟩
        · replace h1 := h1.1 z
          replace h2 := h2.1 z
          obtain ⟨P1, c1, h1⟩ := h1
          refine ⟨P1, c1, ?_⟩
          intro g67 a5_0 a5_1 x69 a5_2 a5_3 a5_4
          replace h1 := h1 g67 a5_0 a5_1 x69 a5_2 a5_3 a5_4
          replace h2 := h2 g67 a5_0 x69 a5_2 a5_3 a5_4
          refine ⟨fun z => ?_, fun z => ?_⟩
          · replace h1 := h1.1 z
            replace h2 := h2.1 z
            exact ⟨h1, h2⟩
          · replace h1 := h1.2 z
            replace h2 := h2.2 z
            intro b74 a6_0 a6_1
            replace h1 := h1 b74 a6_0 a6_1
            replace h2 := h2 b74 a6_0 a6_1
            obtain ⟨P1, c1, h1⟩ := h1
            refine ⟨P1, c1, ?_⟩
            intro g83 a6_0 a6_1
            replace h1 := h1 g83 a6_0 a6_1
            replace h2 := h2 g83 a6_0
            exact ⟨h1, h2⟩
        · replace h1 := h1.2 z
          replace h2 := h2.2 z
          obtain ⟨P1, c1, h1⟩ := h1
          refine ⟨P1, c1, ?_⟩
          intro x90 a5_0 a5_1 g93 a5_2 a5_3
          replace h1 := h1 x90 a5_0 a5_1 g93 a5_2 a5_3
          replace h2 := h2 x90 a5_0 a5_1 g93 a5_2
          exact ⟨h1, h2⟩
      · replace h1 := h1.2 z
        replace h2 := h2.2 z
        exact ⟨h1, h2⟩
    · replace h1 := h1.2 z
      replace h2 := h2.2 z
      obtain ⟨P1, c1, h1⟩ := h1
      refine ⟨P1, c1, ?_⟩
      intro x100 a3_0 a3_1 g103 a3_2 a3_3
      replace h1 := h1 x100 a3_0 a3_1 g103 a3_2 a3_3
      replace h2 := h2 x100 a3_0 a3_1 g103 a3_2
      refine ⟨fun z => ?_, fun z => ?_⟩
      · replace h1 := h1.1 z
        replace h2 := h2.1 z
        obtain ⟨P1, c1, h1⟩ := h1
        obtain ⟨P2, c2, h2⟩ := h2
        refine ⟨fun v g => P1 v g ∧ P2 v g, cj_1297_c5 c1 c2, ?_⟩
        intro x111 a4_0 a4_1 g114 a4_2 a4_3
        replace h1 := h1 x111 a4_0 a4_1 g114 a4_2 a4_3.1
        replace h2 := h2 x111 a4_0 a4_1 g114 a4_2 a4_3.2
        refine ⟨fun z => ?_, fun z => ?_⟩
        · replace h1 := h1.1 z
          replace h2 := h2.1 z
          obtain ⟨P1, c1, h1⟩ := h1
          refine ⟨P1, c1, ?_⟩
          intro x122 a5_0 a5_1 g125 a5_2 a5_3
          replace h1 := h1 x122 a5_0 a5_1 g125 a5_2 a5_3
          replace h2 := h2 x122 a5_0 a5_1 g125 a5_2
          refine ⟨fun z => ?_, fun z => ?_⟩
          · replace h1 := h1.1 z
            replace h2 := h2.1 z
            obtain ⟨m, hm, hi⟩ := h1
            exact ⟨m, hm, hi, h2⟩
          · replace h1 := h1.2 z
            replace h2 := h2.2 z
            obtain ⟨P1, c1, h1⟩ := h1
            refine ⟨P1, c1, ?_⟩
            intro x133 a6_0 a6_1 g136 a6_2 a6_3
            replace h1 := h1 x133 a6_0 a6_1 g136 a6_2 a6_3
            replace h2 := h2 x133 a6_0 a6_1 g136 a6_2
            refine ⟨fun z => ?_, fun z => ?_⟩
            · replace h1 := h1.1 z
              replace h2 := h2.1 z
              obtain ⟨m, hm, hi⟩ := h1
              exact ⟨m, hm, hi, h2⟩
            · replace h1 := h1.2 z
              replace h2 := h2.2 z
              obtain ⟨P1, c1, h1⟩ := h1
              refine ⟨P1, c1, ?_⟩
              intro x144 a7_0 a7_1 g147 a7_2 a7_3
              replace h1 := h1 x144 a7_0 a7_1 g147 a7_2 a7_3
              replace h2 := h2 x144 a7_0 a7_1 g147 a7_2
              refine ⟨fun z => ?_, fun z => ?_⟩
              · replace h1 := h1.1 z
                replace h2 := h2.1 z
                obtain ⟨m, hm, hi⟩ := h1
                exact ⟨m, hm, hi, h2⟩
              · replace h1 := h1.2 z
                replace h2 := h2.2 z
                obtain ⟨m, hm, hi⟩ := h1
                exact ⟨m, hm, hi, h2⟩
        · replace h1 := h1.2 z
          replace h2 := h2.2 z
          exact ⟨h1, h2⟩
      · replace h1 := h1.2 z
        replace h2 := h2.2 z
        obtain ⟨P1, c1, h1⟩ := h1
        refine ⟨P1, c1, ?_⟩
        intro g155 a4_0 a4_1 b157 a4_2 a4_3
        replace h1 := h1 g155 a4_0 a4_1 b157 a4_2 a4_3
        replace h2 := h2 g155 a4_0 b157 a4_2 a4_3
        obtain ⟨P1, c1, h1⟩ := h1
        refine ⟨P1, c1, ?_⟩
        intro g166 a4_0 a4_1 x168 a4_2 a4_3 a4_4
        replace h1 := h1 g166 a4_0 a4_1 x168 a4_2 a4_3 a4_4
        replace h2 := h2 g166 a4_0 x168 a4_2 a4_3 a4_4
        refine ⟨fun z => ?_, fun z => ?_⟩
        · replace h1 := h1.1 z
          replace h2 := h2.1 z
          exact ⟨h1, h2⟩
        · replace h1 := h1.2 z
          replace h2 := h2.2 z
          obtain ⟨P1, c1, h1⟩ := h1
          refine ⟨P1, c1, ?_⟩
          intro g179 a5_0 a5_1
          replace h1 := h1 g179 a5_0 a5_1
          replace h2 := h2 g179 a5_0
          exact ⟨h1, h2⟩
  · intro n g v167_2 s167_0 e0 e1 e2 e3 e4 hI
    have h1 := h1_2 n g v167_2 s167_0 e0 e1 e2 e3 e4 hI.1
    have h2 := h2_2 g v167_2 s167_0 e0 e1 e2 e3 e4 hI.2
    clear h1E h2E hI h1_0 h2_0 h1_1 h2_1 h1_2 h2_2
    refine ⟨fun z => ?_, fun z => ?_⟩
    · replace h1 := h1.1 z
      replace h2 := h2.1 z
      obtain ⟨P1, c1, h1⟩ := h1
      refine ⟨P1, c1, ?_⟩
      intro g187 a3_0 a3_1
      replace h1 := h1 g187 a3_0 a3_1
      replace h2 := h2 g187 a3_0
      obtain ⟨P1, c1, h1⟩ := h1
      obtain ⟨P2, c2, h2⟩ := h2
      refine ⟨fun v g => P1 v g ∧ P2 v g, cj_1297_c5 c1 c2, ?_⟩
      intro x194 a3_0 a3_1 g197 a3_2 a3_3
      replace h1 := h1 x194 a3_0 a3_1 g197 a3_2 a3_3.1
      replace h2 := h2 x194 a3_0 a3_1 g197 a3_2 a3_3.2
      refine ⟨fun z => ?_, fun z => ?_⟩
      · replace h1 := h1.1 z
        replace h2 := h2.1 z
        intro b200 a4_0 a4_1
        replace h1 := h1 b200 a4_0 a4_1
        replace h2 := h2 b200 a4_0 a4_1
        obtain ⟨P1, c1, h1⟩ := h1
        refine ⟨P1, c1, ?_⟩
        intro g209 a4_0 a4_1 x211 a4_2 a4_3 a4_4
        replace h1 := h1 g209 a4_0 a4_1 x211 a4_2 a4_3 a4_4
        replace h2 := h2 g209 a4_0 x211 a4_2 a4_3 a4_4
        refine ⟨fun z => ?_, fun z => ?_⟩
        · replace h1 := h1.1 z
          replace h2 := h2.1 z
          exact ⟨h1, h2⟩
        · replace h1 := h1.2 z
          replace h2 := h2.2 z
          obtain ⟨P1, c1, h1⟩ := h1
          refine ⟨P1, c1, ?_⟩
          intro g222 a5_0 a5_1
          replace h1 := h1 g222 a5_0 a5_1
          replace h2 := h2 g222 a5_0
          exact ⟨h1, h2⟩
      · replace h1 := h1.2 z
        replace h2 := h2.2 z
        exact ⟨h1, h2⟩
    · replace h1 := h1.2 z
      replace h2 := h2.2 z
      obtain ⟨P1, c1, h1⟩ := h1
      refine ⟨P1, c1, ?_⟩
      intro x229 a3_0 a3_1 g232 a3_2 a3_3
      replace h1 := h1 x229 a3_0 a3_1 g232 a3_2 a3_3
      replace h2 := h2 x229 a3_0 a3_1 g232 a3_2
      exact ⟨h1, h2⟩
set_option maxRecDepth 100000 in
def p_1300_c5 (s0 : zF) (Q : Int → zF → Prop) : Prop :=
  ∃ (I2 : zF → Int → Prop) (I11 : zF → Int → Int → Prop) (I44 : zF → Int → Int → Prop) (I66 : zF → Int → Prop),
    (I2 s0 0) ∧
    (∀ (g : zF) (v2_2 : Int), zFr [(2, 3, 0), (2, 3, 1), (20, 21, 1), (41, 42, 1), (21, 22, 1000), (42, 43, 1000), (2, 3, 7)] s0 g → 0 ≤ v2_2 → v2_2 ≤ 1601 → I2 g v2_2 → (1600 < v2_2 → Q 1 g) ∧ (v2_2 ≤ 1600 → I11 g v2_2 0)) ∧
    (∀ (g : zF) (v11_2 : Int) (v11_3 : Int), zFr [(2, 3, 0), (2, 3, 1), (20, 21, 1), (41, 42, 1), (21, 22, 1000), (42, 43, 1000), (2, 3, 7)] s0 g → 0 ≤ v11_2 → v11_2 ≤ 1600 → 0 ≤ v11_3 → v11_3 ≤ 1601 → I11 g v11_2 v11_3 → (1600 < v11_3 → I66 g v11_2) ∧ (v11_3 ≤ 1600 → ∃ P5 : Int → zF → Prop, p_1301_c5 g P5 ∧ ∀ x8 : Int, 0 ≤ x8 → x8 ≤ 1 → ∀ g11 : zF, zFr [(2, 3, 0), (2, 3, 1), (20, 21, 1), (41, 42, 1), (21, 22, 1000), (42, 43, 1000), (2, 3, 7)] g g11 → P5 x8 g11 → (¬ x8 = 0 → (0 < v11_3 → ∀ b15 : Nat, (b15 : Int) = g11 (2) 8 → (b15 = 7 ∨ b15 = 28) → ∀ g24 : zF, zFr [(b15 + 13, b15 + 14, 1), (b15 + 14, b15 + 15, 1000)] g11 g24 → I44 g24 v11_2 v11_3) ∧ (v11_3 ≤ 0 → I44 g11 v11_2 v11_3)) ∧ (x8 = 0 → Q 0 g11))) ∧
    (∀ (g : zF) (v44_2 : Int) (v44_3 : Int), zFr [(2, 3, 0), (2, 3, 1), (20, 21, 1), (41, 42, 1), (21, 22, 1000), (42, 43, 1000), (2, 3, 7)] s0 g → 0 ≤ v44_2 → v44_2 ≤ 1600 → 0 ≤ v44_3 → v44_3 ≤ 1600 → I44 g v44_2 v44_3 → ∀ x31 : Int, (-1) ≤ x31 → x31 ≤ 26 → ∀ g34 : zF, zFr [] g g34 → (¬ x31 = 22 → I66 g34 v44_2) ∧ (x31 = 22 → ∀ g42 : zF, zFr [(2, 3, 7)] g34 g42 → ∀ x44 : Int, x44 = v44_3 + 1 → I11 g42 v44_2 x44)) ∧
    (∀ (g : zF) (v66_2 : Int), zFr [(2, 3, 0), (2, 3, 1), (20, 21, 1), (41, 42, 1), (21, 22, 1000), (42, 43, 1000), (2, 3, 7)] s0 g → 0 ≤ v66_2 → v66_2 ≤ 1600 → I66 g v66_2 → (0 < v66_2 → ∀ b47 : Nat, (b47 : Int) = g (2) 8 → (b47 = 7 ∨ b47 = 28) → ∀ g56 : zF, zFr [(b47 + 13, b47 + 14, 1), (b47 + 14, b47 + 15, 1000)] g g56 → ∀ x63 : Int, (-1) ≤ x63 → x63 ≤ 26 → ∀ g66 : zF, zFr [] g56 g66 → (¬ x63 = 21 → Q 1 g66) ∧ (x63 = 21 → ∀ g74 : zF, zFr [(2, 3, 7)] g66 g74 → ∀ x76 : Int, x76 = v66_2 + 1 → I2 g74 x76)) ∧ (v66_2 ≤ 0 → ∀ x83 : Int, (-1) ≤ x83 → x83 ≤ 26 → ∀ g86 : zF, zFr [] g g86 → (¬ x83 = 21 → Q 1 g86) ∧ (x83 = 21 → ∀ g94 : zF, zFr [(2, 3, 7)] g86 g94 → ∀ x96 : Int, x96 = v66_2 + 1 → I2 g94 x96)))
set_option maxRecDepth 100000 in
theorem cj_1300_c5 {s0 : zF} {Q1 Q2 : Int → zF → Prop} (h1 : b_1300_c5 s0 Q1) (h2 : p_1300_c5 s0 Q2) : b_1300_c5 s0 (fun v g => Q1 v g ∧ Q2 v g) := by
  obtain ⟨I2, I11, I44, I66, h1E, h1_0, h1_1, h1_2, h1_3⟩ := h1
  obtain ⟨J2, J11, J44, J66, h2E, h2_0, h2_1, h2_2, h2_3⟩ := h2
  refine ⟨fun n g y0 => I2 n g y0 ∧ J2 g y0, fun n g y0 y1 => I11 n g y0 y1 ∧ J11 g y0 y1, fun n g y0 y1 => I44 n g y0 y1 ∧ J44 g y0 y1, fun n g y0 => I66 n g y0 ∧ J66 g y0, ?_, ?_, ?_, ?_, ?_⟩
  · have h1 := h1E
    have h2 := h2E
    clear h1E h2E h1_0 h2_0 h1_1 h2_1 h1_2 h2_2 h1_3 h2_3
    obtain ⟨m, hi⟩ := h1
    exact ⟨m, hi, h2⟩
  · intro n g v2_2 e0 e1 e2 hI
    have h1 := h1_0 n g v2_2 e0 e1 e2 hI.1
    have h2 := h2_0 g v2_2 e0 e1 e2 hI.2
    clear h1E h2E hI h1_0 h2_0 h1_1 h2_1 h1_2 h2_2 h1_3 h2_3
    refine ⟨fun z => ?_, fun z => ?_⟩
    · replace h1 := h1.1 z
      replace h2 := h2.1 z
      exact ⟨h1, h2⟩
    · replace h1 := h1.2 z
      replace h2 := h2.2 z
      obtain ⟨m, hm, hi⟩ := h1
      exact ⟨m, hm, hi, h2⟩
  · intro n g v11_2 v11_3 e0 e1 e2 e3 e4 hI
    have h1 := h1_1 n g v11_2 v11_3 e0 e1 e2 e3 e4 hI.1
    have h2 := h2_1 g v11_2 v11_3 e0 e1 e2 e3 e4 hI.2
    clear h1E h2E hI h1_0 h2_0 h1_1 h2_1 h1_2 h2_2 h1_3 h2_3
    refine ⟨fun z => ?_, fun z => ?_⟩
    · replace h1 := h1.1 z
      replace h2 := h2.1 z
      obtain ⟨m, hm, hi⟩ := h1
      exact ⟨m, hm, hi, h2⟩
    · replace h1 := h1.2 z
      replace h2 := h2.2 z
      obtain ⟨P1, c1, h1⟩ := h1
      obtain ⟨P2, c2, h2⟩ := h2
      refine ⟨fun v g => P1 v g ∧ P2 v g, cj_1301_c5 c1 c2, ?_⟩
      intro x8 a3_0 a3_1 g11 a3_2 a3_3
      replace h1 := h1 x8 a3_0 a3_1 g11 a3_2 a3_3.1
      replace h2 := h2 x8 a3_0 a3_1 g11 a3_2 a3_3.2
      refine ⟨fun z => ?_, fun z => ?_⟩
      · replace h1 := h1.1 z
        replace h2 := h2.1 z
        refine ⟨fun z => ?_, fun z => ?_⟩
        · replace h1 := h1.1 z
          replace h2 := h2.1 z
          intro b15 a5_0 a5_1
          replace h1 := h1 b15 a5_0 a5_1
          replace h2 := h2 b15 a5_0 a5_1
          obtain ⟨P1, c1, h1⟩ := h1
          refine ⟨P1, c1, ?_⟩
          intro g24 a5_0 a5_1
          replace h1 := h1 g24 a5_0 a5_1
          replace h2 := h2 g24 a5_0
          obtain ⟨m, hm, hi⟩ := h1
          exact ⟨m, hm, hi, h2⟩
        · replace h1 := h1.2 z
          replace h2 := h2.2 z
          obtain ⟨m, hm, hi⟩ := h1
          exact ⟨m, hm, hi, h2⟩
      · replace h1 := h1.2 z
        replace h2 := h2.2 z
        exact ⟨h1, h2⟩
  · intro n g v44_2 v44_3 e0 e1 e2 e3 e4 hI
    have h1 := h1_2 n g v44_2 v44_3 e0 e1 e2 e3 e4 hI.1
    have h2 := h2_2 g v44_2 v44_3 e0 e1 e2 e3 e4 hI.2
    clear h1E h2E hI h1_0 h2_0 h1_1 h2_1 h1_2 h2_2 h1_3 h2_3
    obtain ⟨P1, c1, h1⟩ := h1
    refine ⟨P1, c1, ?_⟩
    intro x31 a2_0 a2_1 g34 a2_2 a2_3
    replace h1 := h1 x31 a2_0 a2_1 g34 a2_2 a2_3
    replace h2 := h2 x31 a2_0 a2_1 g34 a2_2
    refine ⟨fun z => ?_, fun z => ?_⟩
    · replace h1 := h1.1 z
      replace h2 := h2.1 z
      obtain ⟨m, hm, hi⟩ := h1
      exact ⟨m, hm, hi, h2⟩
    · replace h1 := h1.2 z
      replace h2 := h2.2 z
      obtain ⟨P1, c1, h1⟩ := h1
      refine ⟨P1, c1, ?_⟩
      intro g42 a3_0 a3_1 x44 a3_2
      replace h1 := h1 g42 a3_0 a3_1 x44 a3_2
      replace h2 := h2 g42 a3_0 x44 a3_2
      obtain ⟨m, hm, hi⟩ := h1
      exact ⟨m, hm, hi, h2⟩
  · intro n g v66_2 e0 e1 e2 hI
    have h1 := h1_3 n g v66_2 e0 e1 e2 hI.1
    have h2 := h2_3 g v66_2 e0 e1 e2 hI.2
    clear h1E h2E hI h1_0 h2_0 h1_1 h2_1 h1_2 h2_2 h1_3 h2_3
    refine ⟨fun z => ?_, fun z => ?_⟩
    · replace h1 := h1.1 z
      replace h2 := h2.1 z
      intro b47 a3_0 a3_1
      replace h1 := h1 b47 a3_0 a3_1
      replace h2 := h2 b47 a3_0 a3_1
      obtain ⟨P1, c1, h1⟩ := h1
      refine ⟨P1, c1, ?_⟩
      intro g56 a3_0 a3_1
      replace h1 := h1 g56 a3_0 a3_1
      replace h2 := h2 g56 a3_0
      obtain ⟨P1, c1, h1⟩ := h1
      refine ⟨P1, c1, ?_⟩
      intro x63 a3_0 a3_1 g66 a3_2 a3_3
      replace h1 := h1 x63 a3_0 a3_1 g66 a3_2 a3_3
      replace h2 := h2 x63 a3_0 a3_1 g66 a3_2
      refine ⟨fun z => ?_, fun z => ?_⟩
      · replace h1 := h1.1 z
        replace h2 := h2.1 z
        exact ⟨h1, h2⟩
      · replace h1 := h1.2 z
        replace h2 := h2.2 z
        obtain ⟨P1, c1, h1⟩ := h1
        refine ⟨P1, c1, ?_⟩
        intro g74 a4_0 a4_1 x76 a4_2
        replace h1 := h1 g74 a4_0 a4_1 x76 a4_2
        replace h2 := h2 g74 a4_0 x76 a4_2
        obtain ⟨m, hm, hi⟩ := h1
        exact ⟨m, hm, hi, h2⟩
    · replace h1 := h1.2 z
      replace h2 := h2.2 z
      obtain ⟨P1, c1, h1⟩ := h1
      refine ⟨P1, c1, ?_⟩
      intro x83 a3_0 a3_1 g86 a3_2 a3_3
      replace h1 := h1 x83 a3_0 a3_1 g86 a3_2 a3_3
      replace h2 := h2 x83 a3_0 a3_1 g86 a3_2
      refine ⟨fun z => ?_, fun z => ?_⟩
      · replace h1 := h1.1 z
        replace h2 := h2.1 z
        exact ⟨h1, h2⟩
      · replace h1 := h1.2 z
        replace h2 := h2.2 z
        obtain ⟨P1, c1, h1⟩ := h1
        refine ⟨P1, c1, ?_⟩
        intro g94 a4_0 a4_1 x96 a4_2
        replace h1 := h1 g94 a4_0 a4_1 x96 a4_2
        replace h2 := h2 g94 a4_0 x96 a4_2
        obtain ⟨m, hm, hi⟩ := h1
        exact ⟨m, hm, hi, h2⟩
set_option maxRecDepth 100000 in
def p_1301_c4 (s0 : zF) (Q : Int → zF → Prop) : Prop :=
  ∃ (I2 : zF → Int → Prop) (I28 : zF → Int → Prop) (I167 : zF → Int → Int → Prop),
    (I2 s0 0) ∧
    (∀ (g : zF) (v2_2 : Int), zFr [(2, 3, 0), (2, 3, 1), (20, 21, 1), (41, 42, 1), (21, 22, 1000), (42, 43, 1000), (2, 3, 7)] s0 g → 0 ≤ v2_2 → v2_2 ≤ 1601 → I2 g v2_2 → (1600 < v2_2 → I28 g v2_2) ∧ (v2_2 ≤ 1600 → ∀ x7 : Int, (-1) ≤ x7 → x7 ≤ 26 → ∀ g10 : zF, zFr [] g g10 → (¬ x7 = 23 → I28 g10 v2_2) ∧ (x7 = 23 → ∀ g18 : zF, zFr [(2, 3, 7)] g10 g18 → ∀ x20 : Int, x20 = v2_2 + 1 → I2 g18 x20))) ∧
    (∀ (g : zF) (v28_2 : Int), zFr [(2, 3, 0), (2, 3, 1), (20, 21, 1), (41, 42, 1), (21, 22, 1000), (42, 43, 1000), (2, 3, 7)] s0 g → 0 ≤ v28_2 → v28_2 ≤ 1601 → I28 g v28_2 → ∀ x27 : Int, 0 ≤ x27 → x27 ≤ 1 → ∀ g30 : zF, zFr [] g g30 → (¬ x27 = 0 → ∀ g38 : zF, zFr [(2, 3, 7)] g30 g38 → ∃ P42 : Int → zF → Prop, p_1300_c5 g38 P42 ∧ ∀ x45 : Int, 0 ≤ x45 → x45 ≤ 1 → ∀ g48 : zF, zFr [(2, 3, 0), (2, 3, 1), (20, 21, 1), (41, 42, 1), (21, 22, 1000), (42, 43, 1000), (2, 3, 7)] g38 g48 → P42 x45 g48 → (¬ x45 = 0 → ∀ x56 : Int, 0 ≤ x56 → x56 ≤ 1 → ∀ g59 : zF, zFr [] g48 g59 → (¬ x56 = 0 → ∀ g67 : zF, zFr [(2, 3, 7)] g59 g67 → ∀ x69 : Int, 0 ≤ x69 → x69 < 2 → x69 = v28_2 % 2 → (¬ x69 = 1 → Q 1 g67) ∧ (x69 = 1 → ∀ b74 : Nat, (b74 : Int) = g67 (2) 8 → (b74 = 7 ∨ b74 = 28) → ∀ g83 : zF, zFr [(b74 + 13, b74 + 14, 1), (b74 + 14, b74 + 15, 1000)] g67 g83 → Q 1 g83)) ∧ (x56 = 0 → ∀ x90 : Int, 0 ≤ x90 → x90 ≤ 0 → ∀ g93 : zF, zFr [(2, 3, 0), (2, 3, 1)] g59 g93 → Q x90 g93)) ∧ (x45 = 0 → Q 0 g48)) ∧ (x27 = 0 → ∀ x100 : Int, (-1) ≤ x100 → x100 ≤ 26 → ∀ g103 : zF, zFr [] g30 g103 → (¬ x100 = 24 → ∃ P108 : Int → zF → Prop, p_1297_c4 g103 P108 ∧ ∀ x111 : Int, 0 ≤ x111 → x111 ≤ 1 → ∀ g114 : zF, zFr [(2, 3, 0), (2, 3, 1), (20, 21, 1), (41, 42, 1), (21, 22, 1000), (42, 43, 1000), (2, 3, 7)] g103 g114 → P108 x111 g114 → (¬ x111 = 0 → ∀ x122 : Int, 0 ≤ x122 → x122 ≤ 1 → ∀ g125 : zF, zFr [] g114 g125 → (¬ x122 = 0 → I167 g125 v28_2 (-14)) ∧ (x122 = 0 → ∀ x133 : Int, 0 ≤ x133 → x133 ≤ 1 → ∀ g136 : zF, zFr [] g125 g136 → (¬ x133 = 0 → I167 g136 v28_2 (-15)) ∧ (x133 = 0 → ∀ x144 : Int, 0 ≤ x144 → x144 ≤ 1 → ∀ g147 : zF, zFr [] g136 g147 → (¬ x144 = 0 → I167 g147 v28_2 (-16)) ∧ (x144 = 0 → I167 g147 v28_2 0)))) ∧ (x111 = 0 → Q 0 g114)) ∧ (x100 = 24 → ∀ g155 : zF, zFr [(2, 3, 7)] g103 g155 → ∀ b157 : Nat, (b157 : Int) = g155 (2) 8 → (b157 = 7 ∨ b157 = 28) → ∀ g166 : zF, zFr [(b157 + 13, b157 + 14, 1), (b157 + 14, b157 + 15, 1000)] g155 g166 → ∀ x168 : Int, 0 ≤ x168 → x168 < 2 → x168 = v28_2 % 2 → (¬ x168 = 1 → Q 1 g166) ∧ (x168 = 1 → ∀ g179 : zF, zFr [(b157 + 13, b157 + 14, 1), (b157 + 14, b157 + 15, 1000)] g166 g179 → Q 1 g179)))) ∧
    (∀ (g : zF) (v167_2 : Int) (s167_0 : Int), zFr [(2, 3, 0), (2, 3, 1), (20, 21, 1), (41, 42, 1), (21, 22, 1000), (42, 43, 1000), (2, 3, 7)] s0 g → 0 ≤ v167_2 → v167_2 ≤ 1601 → (-16) ≤ s167_0 → s167_0 ≤ 0 → I167 g v167_2 s167_0 → (¬ s167_0 = 0 → ∀ g187 : zF, zFr [(2, 3, 7)] g g187 → ∃ P191 : Int → zF → Prop, p_1297_c4 g187 P191 ∧ ∀ x194 : Int, 0 ≤ x194 → x194 ≤ 1 → ∀ g197 : zF, zFr [(2, 3, 0), (2, 3, 1), (20, 21, 1), (41, 42, 1), (21, 22, 1000), (42, 43, 1000), (2, 3, 7)] g187 g197 → P191 x194 g197 → (¬ x194 = 0 → ∀ b200 : Nat, (b200 : Int) = g197 (2) 8 → (b200 = 7 ∨ b200 = 28) → ∀ g209 : zF, zFr [(b200 + 13, b200 + 14, 1), (b200 + 14, b200 + 15, 1000)] g197 g209 → ∀ x211 : Int, 0 ≤ x211 → x211 < 2 → x211 = v167_2 % 2 → (¬ x211 = 1 → Q 1 g209) ∧ (x211 = 1 → ∀ g222 : zF, zFr [(b200 + 13, b200 + 14, 1), (b200 + 14, b200 + 15, 1000)] g209 g222 → Q 1 g222)) ∧ (x194 = 0 → Q 0 g197)) ∧ (s167_0 = 0 → ∀ x229 : Int, 0 ≤ x229 → x229 ≤ 0 → ∀ g232 : zF, zFr [(2, 3, 0), (2, 3, 1)] g g232 → Q x229 g232))
