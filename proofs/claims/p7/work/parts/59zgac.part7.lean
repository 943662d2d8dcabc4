/-! partial conditions of the Reader (wip/safe/vcp.py) -/
set_option maxRecDepth 100000 in
theorem cj_1301_c4 {s0 : zF} {Q1 Q2 : Int → zF → Prop} (h1 : b_1301_c4 s0 Q1) (h2 : p_1301_c4 s0 Q2) : b_1301_c4 s0 (fun v g => Q1 v g ∧ Q2 v g) := by
  obtain ⟨I2, I28, I167, h1E, h1_0, h1_1, h1_2⟩ := h1
  obtain ⟨J2, J28, J167, h2E, h2_0, h2_1, h2_2⟩ := h2
  refine ⟨fun n g y0 => I2 n g y0 ∧ J2 g y0, fun n g y0 => I28 n g y0 ∧ J28 g y0, fun n g y0 y1 => I167 n g y0 y1 ∧ J167 g y0 y1, ?_, ?_, ?_, ?_⟩
  · have h1 := h1E
    have h2 := h2E
    clear h1E h2E h1_0 h2_0 h1_1 h2_1 h1_2 h2_2
    obtain ⟨m, hi⟩ := h1
    exact ⟨m, hi, h2⟩
  · intro n g v2_2 e0 e1 e2 hI
    have h1 := h1_0 n g v2_2 e0 e1 e2 hI.1
    have h2 := h2_0 g v2_2 e0 e1 e2 hI.2
    clear h1E h2E hI h1_0 h2_0 h1_1 h2_1 h1_2 h2_2
    refine ⟨fun z => ?_, fun z => ?_⟩
    · replace h1 := h1.1 z
      replace h2 := h2.1 z
      obtain ⟨m, hm, hi⟩ := h1
      exact ⟨m, hm, hi, h2⟩
    · replace h1 := h1.2 z
      replace h2 := h2.2 z
      obtain ⟨P1, c1, h1⟩ := h1
      refine ⟨P1, c1, ?_⟩
      intro x7 a3_0 a3_1 g10 a3_2 a3_3
      replace h1 := h1 x7 a3_0 a3_1 g10 a3_2 a3_3
      replace h2 := h2 x7 a3_0 a3_1 g10 a3_2
      refine ⟨fun z => ?_, fun z => ?_⟩
      · replace h1 := h1.1 z
        replace h2 := h2.1 z
        obtain ⟨m, hm, hi⟩ := h1
        exact ⟨m, hm, hi, h2⟩
      · replace h1 := h1.2 z
        replace h2 := h2.2 z
        obtain ⟨P1, c1, h1⟩ := h1
        refine ⟨P1, c1, ?_⟩
        intro g18 a4_0 a4_1 x20 a4_2
        replace h1 := h1 g18 a4_0 a4_1 x20 a4_2
        replace h2 := h2 g18 a4_0 x20 a4_2
        obtain ⟨m, hm, hi⟩ := h1
        exact ⟨m, hm, hi, h2⟩
  · intro n g v28_2 e0 e1 e2 hI
    have h1 := h1_1 n g v28_2 e0 e1 e2 hI.1
    have h2 := h2_1 g v28_2 e0 e1 e2 hI.2
    clear h1E h2E hI h1_0 h2_0 h1_1 h2_1 h1_2 h2_2
    obtain ⟨P1, c1, h1⟩ := h1
    refine ⟨P1, c1, ?_⟩
    intro x27 a2_0 a2_1 g30 a2_2 a2_3
    replace h1 := h1 x27 a2_0 a2_1 g30 a2_2 a2_3
    replace h2 := h2 x27 a2_0 a2_1 g30 a2_2
    refine ⟨fun z => ?_, fun z => ?_⟩
    · replace h1 := h1.1 z
      replace h2 := h2.1 z
      obtain ⟨P1, c1, h1⟩ := h1
      refine ⟨P1, c1, ?_⟩
      intro g38 a3_0 a3_1
      replace h1 := h1 g38 a3_0 a3_1
      replace h2 := h2 g38 a3_0
      obtain ⟨P1, c1, h1⟩ := h1
      obtain ⟨P2, c2, h2⟩ := h2
      refine ⟨fun v g => P1 v g ∧ P2 v g, cj_1300_c5 c1 c2, ?_⟩
      intro x45 a3_0 a3_1 g48 a3_2 a3_3
      replace h1 := h1 x45 a3_0 a3_1 g48 a3_2 a3_3.1
      replace h2 := h2 x45 a3_0 a3_1 g48 a3_2 a3_3.2
      refine ⟨fun z => ?_, fun z => ?_⟩
      · replace h1 := h1.1 z
        replace h2 := h2.1 z
        obtain ⟨P1, c1, h1⟩ := h1
        refine ⟨P1, c1, ?_⟩
        intro x56 a4_0 a4_1 g59 a4_2 a4_3
        replace h1 := h1 x56 a4_0 a4_1 g59 a4_2 a4_3
        replace h2 := h2 x56 a4_0 a4_1 g59 a4_2
        refine ⟨fun z => ?_, fun z => ?_⟩
        · replace h1 := h1.1 z
          replace h2 := h2.1 z
          obtain ⟨P1, c1, h1⟩ := h1
          refine ⟨P1, c1, ?_⟩
          intro g67 a5_0 a5_1 x69 a5_2 a5_3 a5_4
          replace h1 := h1 g67 a5_0 a5_1 x69 a5_2 a5_3 a5_4
          replace h2 := h2 g67 a5_0 x69 a5_2 a5_3 a5_4
          refine ⟨fun z => ?_, fun z => ?_⟩
          · replace h1 := h1.1 z
            replace h2 := h2.1 z
            exact ⟨h1, h2⟩
          · replace h1 := h1.2 z
            replace h2 := h2.2 z
            intro b74 a6_0 a6_1
            replace h1 := h1 b74 a6_0 a6_1
            replace h2 := h2 b74 a6_0 a6_1
            obtain ⟨P1, c1, h1⟩ := h1
            refine ⟨P1, c1, ?_⟩
            intro g83 a6_0 a6_1
            replace h1 := h1 g83 a6_0 a6_1
            replace h2 := h2 g83 a6_0
            exact ⟨h1, h2⟩
        · replace h1 := h1.2 z
          replace h2 := h2.2 z
          obtain ⟨P1, c1, h1⟩ := h1
          refine ⟨P1, c1, ?_⟩
          intro x90 a5_0 a5_1 g93 a5_2 a5_3
          replace h1 := h1 x90 a5_0 a5_1 g93 a5_2 a5_3
          replace h2 := h2 x90 a5_0 a5_1 g93 a5_2
          exact ⟨h1, h2⟩
      · replace h1 := h1.2 z
        replace h2 := h2.2 z
        exact ⟨h1, h2⟩
    · replace h1 := h1.2 z
      replace h2 := h2.2 z
      obtain ⟨P1, c1, h1⟩ := h1
      refine ⟨P1, c1, ?_⟩
      intro x100 a3_0 a3_1 g103 a3_2 a3_3
      replace h1 := h1 x100 a3_0 a3_1 g103 a3_2 a3_3
      replace h2 := h2 x100 a3_0 a3_1 g103 a3_2
      refine ⟨fun z => ?_, fun z => ?_⟩
      · replace h1 := h1.1 z
        replace h2 := h2.1 z
        obtain ⟨P1, c1, h1⟩ := h1
        obtain ⟨P2, c2, h2⟩ := h2
        refine ⟨fun v g => P1 v g ∧ P2 v g, cj_1297_c4 c1 c2, ?_⟩
        intro x111 a4_0 a4_1 g114 a4_2 a4_3
        replace h1 := h1 x111 a4_0 a4_1 g114 a4_2 a4_3.1
        replace h2 := h2 x111 a4_0 a4_1 g114 a4_2 a4_3.2
        refine ⟨fun z => ?_, fun z => ?_⟩
        · replace h1 := h1.1 z
          replace h2 := h2.1 z
          obtain ⟨P1, c1, h1⟩ := h1
          refine ⟨P1, c1, ?_⟩
          intro x122 a5_0 a5_1 g125 a5_2 a5_3
          replace h1 := h1 x122 a5_0 a5_1 g125 a5_2 a5_3
          replace h2 := h2 x122 a5_0 a5_1 g125 a5_2
          refine ⟨fun z => ?_, fun z => ?_⟩
          · replace h1 := h1.1 z
            replace h2 := h2.1 z
            obtain ⟨m, hm, hi⟩ := h1
            exact ⟨m, hm, hi, h2⟩
          · replace h1 := h1.2 z
            replace h2 := h2.2 z
            obtain ⟨P1, c1, h1⟩ := h1
            refine ⟨P1, c1, ?_⟩
            intro x133 a6_0 a6_1 g136 a6_2 a6_3
            replace h1 := h1 x133 a6_0 a6_1 g136 a6_2 a6_3
            replace h2 := h2 x133 a6_0 a6_1 g136 a6_2
            refine ⟨fun z => ?_, fun z => ?_⟩
            · replace h1 := h1.1 z
              replace h2 := h2.1 z
              obtain ⟨m, hm, hi⟩ := h1
              exact ⟨m, hm, hi, h2⟩
            · replace h1 := h1.2 z
              replace h2 := h2.2 z
              obtain ⟨P1, c1, h1⟩ := h1
              refine ⟨P1, c1, ?_⟩
              intro x144 a7_0 a7_1 g147 a7_2 a7_3
              replace h1 := h1 x144 a7_0 a7_1 g147 a7_2 a7_3
              replace h2 := h2 x144 a7_0 a7_1 g147 a7_2
              refine ⟨fun z => ?_, fun z => ?_⟩
              · replace h1 := h1.1 z
                replace h2 := h2.1 z
                obtain ⟨m, hm, hi⟩ := h1
                exact ⟨m, hm, hi, h2⟩
              · replace h1 := h1.2 z
                replace h2 := h2.2 z
                obtain ⟨m, hm, hi⟩ := h1
                exact ⟨m, hm, hi, h2⟩
        · replace h1 := h1.2 z
          replace h2 := h2.2 z
          exact ⟨h1, h2⟩
      · replace h1 := h1.2 z
        replace h2 := h2.2 z
        obtain ⟨P1, c1, h1⟩ := h1
        refine ⟨P1, c1, ?_⟩
        intro g155 a4_0 a4_1 b157 a4_2 a4_3
        replace h1 := h1 g155 a4_0 a4_1 b157 a4_2 a4_3
        replace h2 := h2 g155 a4_0 b157 a4_2 a4_3
        obtain ⟨P1, c1, h1⟩ := h1
        refine ⟨P1, c1, ?_⟩
        intro g166 a4_0 a4_1 x168 a4_2 a4_3 a4_4
        replace h1 := h1 g166 a4_0 a4_1 x168 a4_2 a4_3 a4_4
        replace h2 := h2 g166 a4_0 x168 a4_2 a4_3 a4_4
        refine ⟨fun z => ?_, fun z => ?_⟩
        · replace h1 := h1.1 z
          replace h2 := h2.1 z
          exact ⟨h1, h2⟩
        · replace h1 := h1.2 z
          replace h2 := h2.2 z
          obtain ⟨P1, c1, h1⟩ := h1
          refine ⟨P1, c1, ?_⟩
          intro g179 a5_0 a5_1
          replace h1 := h1 g179 a5_0 a5_1
          replace h2 := h2 g179 a5_0
          exact ⟨h1, h2⟩
  · intro n g v167_2 s167_0 e0 e1 e2 e3 e4 hI
    have h1 := h1_2 n g v167_2 s167_0 e0 e1 e2 e3 e4 hI.1
    have h2 := h2_2 g v167_2 s167_0 e0 e1 e2 e3 e4 hI.2
    clear h1E h2E hI h1_0 h2_0 h1_1 h2_1 h1_2 h2_2
    refine ⟨fun z => ?_, fun z => ?_⟩
    · replace h1 := h1.1 z
      replace h2 := h2.1 z
      obtain ⟨P1, c1, h1⟩ := h1
      refine ⟨P1, c1, ?_⟩
      intro g187 a3_0 a3_1
      replace h1 := h1 g187 a3_0 a3_1
      replace h2 := h2 g187 a3_0
      obtain ⟨P1, c1, h1⟩ := h1
      obtain ⟨P2, c2, h2⟩ := h2
      refine ⟨fun v g => P1 v g ∧ P2 v g, cj_1297_c4 c1 c2, ?_⟩
      intro x194 a3_0 a3_1 g197 a3_2 a3_3
      replace h1 := h1 x194 a3_0 a3_1 g197 a3_2 a3_3.1
      replace h2 := h2 x194 a3_0 a3_1 g197 a3_2 a3_3.2
      refine ⟨fun z => ?_, fun z => ?_⟩
      · replace h1 := h1.1 z
        replace h2 := h2.1 z
        intro b200 a4_0 a4_1
        replace h1 := h1 b200 a4_0 a4_1
        replace h2 := h2 b200 a4_0 a4_1
        obtain ⟨P1, c1, h1⟩ := h1
        refine ⟨P1, c1, ?_⟩
        intro g209 a4_0 a4_1 x211 a4_2 a4_3 a4_4
        replace h1 := h1 g209 a4_0 a4_1 x211 a4_2 a4_3 a4_4
        replace h2 := h2 g209 a4_0 x211 a4_2 a4_3 a4_4
        refine ⟨fun z => ?_, fun z => ?_⟩
        · replace h1 := h1.1 z
          replace h2 := h2.1 z
          exact ⟨h1, h2⟩
        · replace h1 := h1.2 z
          replace h2 := h2.2 z
          obtain ⟨P1, c1, h1⟩ := h1
          refine ⟨P1, c1, ?_⟩
          intro g222 a5_0 a5_1
          replace h1 := h1 g222 a5_0 a5_1
          replace h2 := h2 g222 a5_0
          exact ⟨h1, h2⟩
      · replace h1 := h1.2 z
        replace h2 := h2.2 z
        exact ⟨h1, h2⟩
    · replace h1 := h1.2 z
      replace h2 := h2.2 z
      obtain ⟨P1, c1, h1⟩ := h1
      refine ⟨P1, c1, ?_⟩
      intro x229 a3_0 a3_1 g232 a3_2 a3_3
      replace h1 := h1 x229 a3_0 a3_1 g232 a3_2 a3_3
      replace h2 := h2 x229 a3_0 a3_1 g232 a3_2
      exact ⟨h1, h2⟩
set_option maxRecDepth 100000 in
def p_1300_c4 (s0 : zF) (Q : Int → zF → Prop) : Prop :=
  ∃ (I2 : zF → Int → Prop) (I11 : zF → Int → Int → Prop) (I44 : zF → Int → Int → Prop) (I66 : zF → Int → Prop),
    (I2 s0 0) ∧
    (∀ (g : zF) (v2_2 : Int), zFr [(2, 3, 0), (2, 3, 1), (20, 21, 1), (41, 42, 1), (21, 22, 1000), (42, 43, 1000), (2, 3, 7)] s0 g → 0 ≤ v2_2 → v2_2 ≤ 1601 → I2 g v2_2 → (1600 < v2_2 → Q 1 g) ∧ (v2_2 ≤ 1600 → I11 g v2_2 0)) ∧
    (∀ (g : zF) (v11_2 : Int) (v11_3 : Int), zFr [(2, 3, 0), (2, 3, 1), (20, 21, 1), (41, 42, 1), (21, 22, 1000), (42, 43, 1000), (2, 3, 7)] s0 g → 0 ≤ v11_2 → v11_2 ≤ 1600 → 0 ≤ v11_3 → v11_3 ≤ 1601 → I11 g v11_2 v11_3 → (1600 < v11_3 → I66 g v11_2) ∧ (v11_3 ≤ 1600 → ∃ P5 : Int → zF → Prop, p_1301_c4 g P5 ∧ ∀ x8 : Int, 0 ≤ x8 → x8 ≤ 1 → ∀ g11 : zF, zFr [(2, 3, 0), (2, 3, 1), (20, 21, 1), (41, 42, 1), (21, 22, 1000), (42, 43, 1000), (2, 3, 7)] g g11 → P5 x8 g11 → (¬ x8 = 0 → (0 < v11_3 → ∀ b15 : Nat, (b15 : Int) = g11 (2) 8 → (b15 = 7 ∨ b15 = 28) → ∀ g24 : zF, zFr [(b15 + 13, b15 + 14, 1), (b15 + 14, b15 + 15, 1000)] g11 g24 → I44 g24 v11_2 v11_3) ∧ (v11_3 ≤ 0 → I44 g11 v11_2 v11_3)) ∧ (x8 = 0 → Q 0 g11))) ∧
    (∀ (g : zF) (v44_2 : Int) (v44_3 : Int), zFr [(2, 3, 0), (2, 3, 1), (20, 21, 1), (41, 42, 1), (21, 22, 1000), (42, 43, 1000), (2, 3, 7)] s0 g → 0 ≤ v44_2 → v44_2 ≤ 1600 → 0 ≤ v44_3 → v44_3 ≤ 1600 → I44 g v44_2 v44_3 → ∀ x31 : Int, (-1) ≤ x31 → x31 ≤ 26 → ∀ g34 : zF, zFr [] g g34 → (¬ x31 = 22 → I66 g34 v44_2) ∧ (x31 = 22 → ∀ g42 : zF, zFr [(2, 3, 7)] g34 g42 → ∀ x44 : Int, x44 = v44_3 + 1 → I11 g42 v44_2 x44)) ∧
    (∀ (g : zF) (v66_2 : Int), zFr [(2, 3, 0), (2, 3, 1), (20, 21, 1), (41, 42, 1), (21, 22, 1000), (42, 43, 1000), (2, 3, 7)] s0 g → 0 ≤ v66_2 → v66_2 ≤ 1600 → I66 g v66_2 → (0 < v66_2 → ∀ b47 : Nat, (b47 : Int) = g (2) 8 → (b47 = 7 ∨ b47 = 28) → ∀ g56 : zF, zFr [(b47 + 13, b47 + 14, 1), (b47 + 14, b47 + 15, 1000)] g g56 → ∀ x63 : Int, (-1) ≤ x63 → x63 ≤ 26 → ∀ g66 : zF, zFr [] g56 g66 → (¬ x63 = 21 → Q 1 g66) ∧ (x63 = 21 → ∀ g74 : zF, zFr [(2, 3, 7)] g66 g74 → ∀ x76 : Int, x76 = v66_2 + 1 → I2 g74 x76)) ∧ (v66_2 ≤ 0 → ∀ x83 : Int, (-1) ≤ x83 → x83 ≤ 26 → ∀ g86 : zF, zFr [] g g86 → (¬ x83 = 21 → Q 1 g86) ∧ (x83 = 21 → ∀ g94 : zF, zFr [(2, 3, 7)] g86 g94 → ∀ x96 : Int, x96 = v66_2 + 1 → I2 g94 x96)))
set_option maxRecDepth 100000 in
theorem cj_1300_c4 {s0 : zF} {Q1 Q2 : Int → zF → Prop} (h1 : b_1300_c4 s0 Q1) (h2 : p_1300_c4 s0 Q2) : b_1300_c4 s0 (fun v g => Q1 v g ∧ Q2 v g) := by
  obtain ⟨I2, I11, I44, I66, h1E, h1_0, h1_1, h1_2, h1_3⟩ := h1
  obtain ⟨J2, J11, J44, J66, h2E, h2_0, h2_1, h2_2, h2_3⟩ := h2
  refine ⟨fun n g y0 => I2 n g y0 ∧ J2 g y0, fun n g y0 y1 => I11 n g y0 y1 ∧ J11 g y0 y1, fun n g y0 y1 => I44 n g y0 y1 ∧ J44 g y0 y1, fun n g y0 => I66 n g y0 ∧ J66 g y0, ?_, ?_, ?_, ?_, ?_⟩
  · have h1 := h1E
    have h2 := h2E
    clear h1E h2E h1_0 h2_0 h1_1 h2_1 h1_2 h2_2 h1_3 h2_3
    obtain ⟨m, hi⟩ := h1
    exact ⟨m, hi, h2⟩
  · intro n g v2_2 e0 e1 e2 hI
    have h1 := h1_0 n g v2_2 e0 e1 e2 hI.1
    have h2 := h2_0 g v2_2 e0 e1 e2 hI.2
    clear h1E h2E hI h1_0 h2_0 h1_1 h2_1 h1_2 h2_2 h1_3 h2_3
    refine ⟨fun z => ?_, fun z => ?_⟩
    · replace h1 := h1.1 z
      replace h2 := h2.1 z
      exact ⟨h1, h2⟩
    · replace h1 := h1.2 z
      replace h2 := h2.2 z
      obtain ⟨m, hm, hi⟩ := h1
      exact ⟨m, hm, hi, h2⟩
  · intro n g v11_2 v11_3 e0 e1 e2 e3 e4 hI
    have h1 := h1_1 n g v11_2 v11_3 e0 e1 e2 e3 e4 hI.1
    have h2 := h2_1 g v11_2 v11_3 e0 e1 e2 e3 e4 hI.2
    clear h1E h2E hI h1_0 h2_0 h1_1 h2_1 h1_2 h2_2 h1_3 h2_3
    refine ⟨fun z => ?_, fun z => ?_⟩
    · replace h1 := h1.1 z
      replace h2 := h2.1 z
      obtain ⟨m, hm, hi⟩ := h1
      exact ⟨m, hm, hi, h2⟩
    · replace h1 := h1.2 z
      replace h2 := h2.2 z
      obtain ⟨P1, c1, h1⟩ := h1
      obtain ⟨P2, c2, h2⟩ := h2
      refine ⟨fun v g => P1 v g ∧ P2 v g, cj_1301_c4 c1 c2, ?_⟩
      intro x8 a3_0 a3_1 g11 a3_2 a3_3
      replace h1 := h1 x8 a3_0 a3_1 g11 a3_2 a3_3.1
      replace h2 := h2 x8 a3_0 a3_1 g11 a3_2 a3_3.2
      refine ⟨fun z => ?_, fun z => ?_⟩
      · replace h1 := h1.1 z
        replace h2 := h2.1 z
        refine ⟨fun z => ?_, fun z => ?_⟩
        · replace h1 := h1.1 z
          replace h2 := h2.1 z
          intro b15 a5_0 a5_1
          replace h1 := h1 b15 a5_0 a5_1
          replace h2 := h2 b15 a5_0 a5_1
          obtain ⟨P1, c1, h1⟩ := h1
          refine ⟨P1, c1, ?_⟩
          intro g24 a5_0 a5_1
          replace h1 := h1 g24 a5_0 a5_1
          replace h2 := h2 g24 a5_0
          obtain ⟨m, hm, hi⟩ := h1
          exact ⟨m, hm, hi, h2⟩
        · replace h1 := h1.2 z
          replace h2 := h2.2 z
          obtain ⟨m, hm, hi⟩ := h1
          exact ⟨m, hm, hi, h2⟩
      · replace h1 := h1.2 z
        replace h2 := h2.2 z
        exact ⟨h1, h2⟩
  · intro n g v44_2 v44_3 e0 e1 e2 e3 e4 hI
    have h1 := h1_2 n g v44_2 v44_3 e0 e1 e2 e3 e4 hI.1
    have h2 := h2_2 g v44_2 v44_3 e0 e1 e2 e3 e4 hI.2
    clear h1E h2E hI h1_0 h2_0 h1_1 h2_1 h1_2 h2_2 h1_3 h2_3
    obtain ⟨P1, c1, h1⟩ := h1
    refine ⟨P1, c1, ?_⟩
    intro x31 a2_0 a2_1 g34 a2_2 a2_3
    replace h1 := h1 x31 a2_0 a2_1 g34 a2_2 a2_3
    replace h2 := h2 x31 a2_0 a2_1 g34 a2_2
    refine ⟨fun z => ?_, fun z => ?_⟩
    · replace h1 := h1.1 z
      replace h2 := h2.1 z
      obtain ⟨m, hm, hi⟩ := h1
      exact ⟨m, hm, hi, h2⟩
    · replace h1 := h1.2 z
      replace h2 := h2.2 z
      obtain ⟨P1, c1, h1⟩ := h1
      refine ⟨P1, c1, ?_⟩
      intro g42 a3_0 a3_1 x44 a3_2
      replace h1 := h1 g42 a3_0 a3_1 x44 a3_2
      replace h2 := h2 g42 a3_0 x44 a3_2
      obtain ⟨m, hm, hi⟩ := h1
      exact ⟨m, hm, hi, h2⟩
  · intro n g v66_2 e0 e1 e2 hI
    have h1 := h1_3 n g v66_2 e0 e1 e2 hI.1
    have h2 := h2_3 g v66_2 e0 e1 e2 hI.2
    clear h1E h2E hI h1_0 h2_0 h1_1 h2_1 h1_2 h2_2 h1_3 h2_3
    refine ⟨fun z => ?_, fun z => ?_⟩
    · replace h1 := h1.1 z
      replace h2 := h2.1 z
      intro b47 a3_0 a3_1
      replace h1 := h1 b47 a3_0 a3_1
      replace h2 := h2 b47 a3_0 a3_1
      obtain ⟨P1, c1, h1⟩ := h1
      refine ⟨P1, c1, ?_⟩
      intro g56 a3_0 a3_1
      replace h1 := h1 g56 a3_0 a3_1
      replace h2 := h2 g56 a3_0
      obtain ⟨P1, c1, h1⟩ := h1
      refine ⟨P1, c1, ?_⟩
      intro x63 a3_0 a3_1 g66 a3_2 a3_3
      replace h1 := h1 x63 a3_0 a3_1 g66 a3_2 a3_3
      replace h2 := h2 x63 a3_0 a3_1 g66 a3_2
      refine ⟨fun z => ?_, fun z => ?_⟩
      · replace h1 := h1.1 z
        replace h2 := h2.1 z
        exact ⟨h1, h2⟩
      · replace h1 := h1.2 z
        replace h2 := h2.2 z
        obtain ⟨P1, c1, h1⟩ := h1
        refine ⟨P1, c1, ?_⟩
        intro g74 a4_0 a4_1 x76 a4_2
        replace h1 := h1 g74 a4_0 a4_1 x76 a4_2
        replace h2 := h2 g74 a4_0 x76 a4_2
        obtain ⟨m, hm, hi⟩ := h1
        exact ⟨m, hm, hi, h2⟩
    · replace h1 := h1.2 z
      replace h2 := h2.2 z
      obtain ⟨P1, c1, h1⟩ := h1
      refine ⟨P1, c1, ?_⟩
      intro x83 a3_0 a3_1 g86 a3_2 a3_3
      replace h1 := h1 x83 a3_0 a3_1 g86 a3_2 a3_3
      replace h2 := h2 x83 a3_0 a3_1 g86 a3_2
      refine ⟨fun z => ?_, fun z => ?_⟩
      · replace h1 := h1.1 z
        replace h2 := h2.1 z
        exact ⟨h1, h2⟩
      · replace h1 := h1.2 z
        replace h2 := h2.2 z
        obtain ⟨P1, c1, h1⟩ := h1
        refine ⟨P1, c1, ?_⟩
        intro g94 a4_0 a4_1 x96 a4_2
        replace h1 := h1 g94 a4_0 a4_1 x96 a4_2
        replace h2 := h2 g94 a4_0 x96 a4_2
        obtain ⟨m, hm, hi⟩ := h1
        exact ⟨m, hm, hi, h2⟩
set_option maxRecDepth 100000 in
def p_1301_c3 (s0 : zF) (Q : Int → zF → Prop) : Prop :=
  ∃ (I2 : zF → Int → Prop) (I28 : zF → Int → Prop) (I167 : zF → Int → Int → Prop),
    (I2 s0 0) ∧
    (∀ (g : zF) (v2_2 : Int), zFr [(2, 3, 0), (2, 3, 1), (20, 21, 1), (41, 42, 1), (21, 22, 1000), (42, 43, 1000), (2, 3, 7)] s0 g → 0 ≤ v2_2 → v2_2 ≤ 1601 → I2 g v2_2 → (1600 < v2_2 → I28 g v2_2) ∧ (v2_2 ≤ 1600 → ∀ x7 : Int, (-1) ≤ x7 → x7 ≤ 26 → ∀ g10 : zF, zFr [] g g10 → (¬ x7 = 23 → I28 g10 v2_2) ∧ (x7 = 23 → ∀ g18 : zF, zFr [(2, 3, 7)] g10 g18 → ∀ x20 : Int, x20 = v2_2 + 1 → I2 g18 x20))) ∧
    (∀ (g : zF) (v28_2 : Int), zFr [(2, 3, 0), (2, 3, 1), (20, 21, 1), (41, 42, 1), (21, 22, 1000), (42, 43, 1000), (2, 3, 7)] s0 g → 0 ≤ v28_2 → v28_2 ≤ 1601 → I28 g v28_2 → ∀ x27 : Int, 0 ≤ x27 → x27 ≤ 1 → ∀ g30 : zF, zFr [] g g30 → (¬ x27 = 0 → ∀ g38 : zF, zFr [(2, 3, 7)] g30 g38 → ∃ P42 : Int → zF → Prop, p_1300_c4 g38 P42 ∧ ∀ x45 : Int, 0 ≤ x45 → x45 ≤ 1 → ∀ g48 : zF, zFr [(2, 3, 0), (2, 3, 1), (20, 21, 1), (41, 42, 1), (21, 22, 1000), (42, 43, 1000), (2, 3, 7)] g38 g48 → P42 x45 g48 → (¬ x45 = 0 → ∀ x56 : Int, 0 ≤ x56 → x56 ≤ 1 → ∀ g59 : zF, zFr [] g48 g59 → (¬ x56 = 0 → ∀ g67 : zF, zFr [(2, 3, 7)] g59 g67 → ∀ x69 : Int, 0 ≤ x69 → x69 < 2 → x69 = v28_2 % 2 → (¬ x69 = 1 → Q 1 g67) ∧ (x69 = 1 → ∀ b74 : Nat, (b74 : Int) = g67 (2) 8 → (b74 = 7 ∨ b74 = 28) → ∀ g83 : zF, zFr [(b74 + 13, b74 + 14, 1), (b74 + 14, b74 + 15, 1000)] g67 g83 → Q 1 g83)) ∧ (x56 = 0 → ∀ x90 : Int, 0 ≤ x90 → x90 ≤ 0 → ∀ g93 : zF, zFr [(2, 3, 0), (2, 3, 1)] g59 g93 → Q x90 g93)) ∧ (x45 = 0 → Q 0 g48)) ∧ (x27 = 0 → ∀ x100 : Int, (-1) ≤ x100 → x100 ≤ 26 → ∀ g103 : zF, zFr [] g30 g103 → (¬ x100 = 24 → ∃ P108 : Int → zF → Prop, p_1297_c3 g103 P108 ∧ ∀ x111 : Int, 0 ≤ x111 → x111 ≤ 1 → ∀ g114 : zF, zFr [(2, 3, 0), (2, 3, 1), (20, 21, 1), (41, 42, 1), (21, 22, 1000), (42, 43, 1000), (2, 3, 7)] g103 g114 → P108 x111 g114 → (¬ x111 = 0 → ∀ x122 : Int, 0 ≤ x122 → x122 ≤ 1 → ∀ g125 : zF, zFr [] g114 g125 → (¬ x122 = 0 → I167 g125 v28_2 (-14)) ∧ (x122 = 0 → ∀ x133 : Int, 0 ≤ x133 → x133 ≤ 1 → ∀ g136 : zF, zFr [] g125 g136 → (¬ x133 = 0 → I167 g136 v28_2 (-15)) ∧ (x133 = 0 → ∀ x144 : Int, 0 ≤ x144 → x144 ≤ 1 → ∀ g147 : zF, zFr [] g136 g147 → (¬ x144 = 0 → I167 g147 v28_2 (-16)) ∧ (x144 = 0 → I167 g147 v28_2 0)))) ∧ (x111 = 0 → Q 0 g114)) ∧ (x100 = 24 → ∀ g155 : zF, zFr [(2, 3, 7)] g103 g155 → ∀ b157 : Nat, (b157 : Int) = g155 (2) 8 → (b157 = 7 ∨ b157 = 28) → ∀ g166 : zF, zFr [(b157 + 13, b157 + 14, 1), (b157 + 14, b157 + 15, 1000)] g155 g166 → ∀ x168 : Int, 0 ≤ x168 → x168 < 2 → x168 = v28_2 % 2 → (¬ x168 = 1 → Q 1 g166) ∧ (x168 = 1 → ∀ g179 : zF, zFr [(b157 + 13, b157 + 14, 1), (b157 + 14, b157 + 15, 1000)] g166 g179 → Q 1 g179)))) ∧
    (∀ (g : zF) (v167_2 : Int) (s167_0 : Int), zFr [(2, 3, 0), (2, 3, 1), (20, 21, 1), (41, 42, 1), (21, 22, 1000), (42, 43, 1000), (2, 3, 7)] s0 g → 0 ≤ v167_2 → v167_2 ≤ 1601 → (-16) ≤ s167_0 → s167_0 ≤ 0 → I167 g v167_2 s167_0 → (¬ s167_0 = 0 → ∀ g187 : zF, zFr [(2, 3, 7)] g g187 → ∃ P191 : Int → zF → Prop, p_1297_c3 g187 P191 ∧ ∀ x194 : Int, 0 ≤ x194 → x194 ≤ 1 → ∀ g197 : zF, zFr [(2, 3, 0), (2, 3, 1), (20, 21, 1), (41, 42, 1), (21, 22, 1000), (42, 43, 1000), (2, 3, 7)] g187 g197 → P191 x194 g197 → (¬ x194 = 0 → ∀ b200 : Nat, (b200 : Int) = g197 (2) 8 → (b200 = 7 ∨ b200 = 28) → ∀ g209 : zF, zFr [(b200 + 13, b200 + 14, 1), (b200 + 14, b200 + 15, 1000)] g197 g209 → ∀ x211 : Int, 0 ≤ x211 → x211 < 2 → x211 = v167_2 % 2 → (¬ x211 = 1 → Q 1 g209) ∧ (x211 = 1 → ∀ g222 : zF, zFr [(b200 + 13, b200 + 14, 1), (b200 + 14, b200 + 15, 1000)] g209 g222 → Q 1 g222)) ∧ (x194 = 0 → Q 0 g197)) ∧ (s167_0 = 0 → ∀ x229 : Int, 0 ≤ x229 → x229 ≤ 0 → ∀ g232 : zF, zFr [(2, 3, 0), (2, 3, 1)] g g232 → Q x229 g232))
set_option maxRecDepth 100000 in
theorem cj_1301_c3 {s0 : zF} {Q1 Q2 : Int → zF → Prop} (h1 : b_1301_c3 s0 Q1) (h2 : p_1301_c3 s0 Q2) : b_1301_c3 s0 (fun v g => Q1 v g ∧ Q2 v g) := by
  obtain ⟨I2, I28, I167, h1E, h1_0, h1_1, h1_2⟩ := h1
  obtain ⟨J2, J28, J167, h2E, h2_0, h2_1, h2_2⟩ := h2
  refine ⟨fun n g y0 => I2 n g y0 ∧ J2 g y0, fun n g y0 => I28 n g y0 ∧ J28 g y0, fun n g y0 y1 => I167 n g y0 y1 ∧ J167 g y0 y1, ?_, ?_, ?_, ?_⟩
  · have h1 := h1E
    have h2 := h2E
    clear h1E h2E h1_0 h2_0 h1_1 h2_1 h1_2 h2_2
    obtain ⟨m, hi⟩ := h1
    exact ⟨m, hi, h2⟩
  · intro n g v2_2 e0 e1 e2 hI
    have h1 := h1_0 n g v2_2 e0 e1 e2 hI.1
    have h2 := h2_0 g v2_2 e0 e1 e2 hI.2
    clear h1E h2E hI h1_0 h2_0 h1_1 h2_1 h1_2 h2_2
    refine ⟨fun z => ?_, fun z => ?_⟩
    · replace h1 := h1.1 z
      replace h2 := h2.1 z
      obtain ⟨m, hm, hi⟩ := h1
      exact ⟨m, hm, hi, h2⟩
    · replace h1 := h1.2 z
      replace h2 := h2.2 z
      obtain ⟨P1, c1, h1⟩ := h1
      refine ⟨P1, c1, ?_⟩
      intro x7 a3_0 a3_1 g10 a3_2 a3_3
      replace h1 := h1 x7 a3_0 a3_1 g10 a3_2 a3_3
      replace h2 := h2 x7 a3_0 a3_1 g10 a3_2
      refine ⟨fun z => ?_, fun z => ?_⟩
      · replace h1 := h1.1 z
        replace h2 := h2.1 z
        obtain ⟨m, hm, hi⟩ := h1
        exact ⟨m, hm, hi, h2⟩
      · replace h1 := h1.2 z
        replace h2 := h2.2 z
        obtain ⟨P1, c1, h1⟩ := h1
        refine ⟨P1, c1, ?_⟩
        intro g18 a4_0 a4_1 x20 a4_2
        replace h1 := h1 g18 a4_0 a4_1 x20 a4_2
        replace h2 := h2 g18 a4_0 x20 a4_2
        obtain ⟨m, hm, hi⟩ := h1
        exact ⟨m, hm, hi, h2⟩
  · intro n g v28_2 e0 e1 e2 hI
    have h1 := h1_1 n g v28_2 e0 e1 e2 hI.1
    have h2 := h2_1 g v28_2 e0 e1 e2 hI.2
    clear h1E h2E hI h1_0 h2_0 h1_1 h2_1 h1_2 h2_2
    obtain ⟨P1, c1, h1⟩ := h1
    refine ⟨P1, c1, ?_⟩
    intro x27 a2_0 a2_1 g30 a2_2 a2_3
    replace h1 := h1 x27 a2_0 a2_1 g30 a2_2 a2_3
    replace h2 := h2 x27 a2_0 a2_1 g30 a2_2
    refine ⟨fun z => ?_, fun z => ?_⟩
    · replace h1 := h1.1 z
      replace h2 := h2.1 z
      obtain ⟨P1, c1, h1⟩ := h1
      refine ⟨P1, c1, ?_⟩
      intro g38 a3_0 a3_1
      replace h1 := h1 g38 a3_0 a3_1
      replace h2 := h2 g38 a3_0
      obtain ⟨P1, c1, h1⟩ := h1
      obtain ⟨P2, c2, h2⟩ := h2
      refine ⟨fun v g => P1 v g ∧ P2 v g, cj_1300_c4 c1 c2, ?_⟩
      intro x45 a3_0 a3_1 g48 a3_2 a3_3
      replace h1 := h1 x45 a3_0 a3_1 g48 a3_2 a3_3.1
      replace h2 := h2 x45 a3_0 a3_1 g48 a3_2 a3_3.2
      refine ⟨fun z => ?_, fun z => ?_⟩
      · replace h1 := h1.1 z
        replace h2 := h2.1 z
        obtain ⟨P1, c1, h1⟩ := h1
        refine ⟨P1, c1, ?_⟩
        intro x56 a4_0 a4_1 g59 a4_2 a4_3
        replace h1 := h1 x56 a4_0 a4_1 g59 a4_2 a4_3
        replace h2 := h2 x56 a4_0 a4_1 g59 a4_2
        refine ⟨fun z => ?_, fun z => ?_⟩
        · replace h1 := h1.1 z
          replace h2 := h2.1 z
          obtain ⟨P1, c1, h1⟩ := h1
          refine ⟨P1, c1, ?_⟩
          intro g67 a5_0 a5_1 x69 a5_2 a5_3 a5_4
          replace h1 := h1 g67 a5_0 a5_1 x69 a5_2 a5_3 a5_4
          replace h2 := h2 g67 a5_0 x69 a5_2 a5_3 a5_4
          refine ⟨fun z => ?_, fun z => ?_⟩
          · replace h1 := h1.1 z
            replace h2 := h2.1 z
            exact ⟨h1, h2⟩
          · replace h1 := h1.2 z
            replace h2 := h2.2 z
            intro b74 a6_0 a6_1
            replace h1 := h1 b74 a6_0 a6_1
            replace h2 := h2 b74 a6_0 a6_1
            obtain ⟨P1, c1, h1⟩ := h1
            refine ⟨P1, c1, ?_⟩
            intro g83 a6_0 a6_1
            replace h1 := h1 g83 a6_0 a6_1
            replace h2 := h2 g83 a6_0
            exact ⟨h1, h2⟩
        · replace h1 := h1.2 z
          replace h2 := h2.2 z
          obtain ⟨P1, c1, h1⟩ := h1
          refine ⟨P1, c1, ?_⟩
          intro x90 a5_0 a5_1 g93 a5_2 a5_3
          replace h1 := h1 x90 a5_0 a5_1 g93 a5_2 a5_3
          replace h2 := h2 x90 a5_0 a5_1 g93 a5_2
          exact ⟨h1, h2⟩
      · replace h1 := h1.2 z
        replace h2 := h2.2 z
        exact ⟨h1, h2⟩
    · replace h1 := h1.2 z
      replace h2 := h2.2 z
      obtain ⟨P1, c1, h1⟩ := h1
      refine ⟨P1, c1, ?_⟩
      intro x100 a3_0 a3_1 g103 a3_2 a3_3
      replace h1 := h1 x100 a3_0 a3_1 g103 a3_2 a3_3
      replace h2 := h2 x100 a3_0 a3_1 g103 a3_2
      refine ⟨fun z => ?_, fun z => ?_⟩
      · replace h1 := h1.1 z
        replace h2 := h2.1 z
        obtain ⟨P1, c1, h1⟩ := h1
        obtain ⟨P2, c2, h2⟩ := h2
        refine ⟨fun v g => P1 v g ∧ P2 v g, cj_1297_c3 c1 c2, ?_⟩
        intro x111 a4_0 a4_1 g114 a4_2 a4_3
        replace h1 := h1 x111 a4_0 a4_1 g114 a4_2 a4_3.1
        replace h2 := h2 x111 a4_0 a4_1 g114 a4_2 a4_3.2
        refine ⟨fun z => ?_, fun z => ?_⟩
        · replace h1 := h1.1 z
          replace h2 := h2.1 z
          obtain ⟨P1, c1, h1⟩ := h1
          refine ⟨P1, c1, ?_⟩
          intro x122 a5_0 a5_1 g125 a5_2 a5_3
          replace h1 := h1 x122 a5_0 a5_1 g125 a5_2 a5_3
          replace h2 := h2 x122 a5_0 a5_1 g125 a5_2
          refine ⟨fun z => ?_, fun z => ?_⟩
          · replace h1 := h1.1 z
            replace h2 := h2.1 z
            obtain ⟨m, hm, hi⟩ := h1
            exact ⟨m, hm, hi, h2⟩
          · replace h1 := h1.2 z
            replace h2 := h2.2 z
            obtain ⟨P1, c1, h1⟩ := h1
            refine ⟨P1, c1, ?_⟩
            intro x133 a6_0 a6_1 g136 a6_2 a6_3
            replace h1 := h1 x133 a6_0 a6_1 g136 a6_2 a6_3
            replace h2 := h2 x133 a6_0 a6_1 g136 a6_2
            refine ⟨fun z => ?_, fun z => ?_⟩
            · replace h1 := h1.1 z
              replace h2 := h2.1 z
              obtain ⟨m, hm, hi⟩ := h1
              exact ⟨m, hm, hi, h2⟩
            · replace h1 := h1.2 z
              replace h2 := h2.2 z
              obtain ⟨P1, c1, h1⟩ := h1
              refine ⟨P1, c1, ?_⟩
              intro x144 a7_0 a7_1 g147 a7_2 a7_3
              replace h1 := h1 x144 a7_0 a7_1 g147 a7_2 a7_3
              replace h2 := h2 x144 a7_0 a7_1 g147 a7_2
              refine ⟨fun z => ?_, fun z => ?_⟩
              · replace h1 := h1.1 z
                replace h2 := h2.1 z
                obtain ⟨m, hm, hi⟩ := h1
                exact ⟨m, hm, hi, h2⟩
              · replace h1 := h1.2 z
                replace h2 := h2.2 z
                obtain ⟨m, hm, hi⟩ := h1
                exact ⟨m, hm, hi, h2⟩
        · replace h1 := h1.2 z
          replace h2 := h2.2 z
          exact ⟨h1, h2⟩
      · replace h1 := h1.2 z
        replace h2 := h2.2 z
        obtain ⟨P1, c1, h1⟩ := h1
        refine ⟨P1, c1, ?_⟩
        intro g155 a4_0 a4_1 b157 a4_2 a4_3
        replace h1 := h1 g155 a4_0 a4_1 b157 a4_2 a4_3
        replace h2 := h2 g155 a4_0 b157 a4_2 a4_3
        obtain ⟨P1, c1, h1⟩ := h1
        refine ⟨P1, c1, ?_⟩
        intro g166 a4_0 a4_1 x168 a4_2 a4_3 a4_4
        replace h1 := h1 g166 a4_0 a4_1 x168 a4_2 a4_3 a4_4
        replace h2 := h2 g166 a4_0 x168 a4_2 a4_3 a4_4
        refine ⟨fun z => ?_, fun z => ?_⟩
        · replace h1 := h1.1 z
          replace h2 := h2.1 z
          exact ⟨h1, h2⟩
        · replace h1 := h1.2 z
          replace h2 := h2.2 z
          obtain ⟨P1, c1, h1⟩ := h1
          refine ⟨P1, c1, ?_⟩
          intro g179 a5_0 a5_1
          replace h1 := h1 g179 a5_0 a5_1
          replace h2 := h2 g179 a5_0
          exact ⟨h1, h2⟩
  · intro n g v167_2 s167_0 e0 e1 e2 e3 e4 hI
    have h1 := h1_2 n g v167_2 s167_0 e0 e1 e2 e3 e4 hI.1
    have h2 := h2_2 g v167_2 s167_0 e0 e1 e2 e3 e4 hI.2
    clear h1E h2E hI h1_0 h2_0 h1_1 h2_1 h1_2 h2_2
    refine ⟨fun z => ?_, fun z => ?_⟩
    · replace h1 := h1.1 z
      replace h2 := h2.1 z
      obtain ⟨P1, c1, h1⟩ := h1
      refine ⟨P1, c1, ?_⟩
      intro g187 a3_0 a3_1
      replace h1 := h1 g187 a3_0 a3_1
      replace h2 := h2 g187 a3_0
      obtain ⟨P1, c1, h1⟩ := h1
      obtain ⟨P2, c2, h2⟩ := h2
      refine ⟨fun v g => P1 v g ∧ P2 v g, cj_1297_c3 c1 c2, ?_⟩
      intro x194 a3_0 a3_1 g197 a3_2 a3_3
      replace h1 := h1 x194 a3_0 a3_1 g197 a3_2 a3_3.1
      replace h2 := h2 x194 a3_0 a3_1 g197 a3_2 a3_3.2
      refine ⟨fun z => ?_, fun z => ?_⟩
      · replace h1 := h1.1 z
        replace h2 := h2.1 z
        intro b200 a4_0 a4_1
        replace h1 := h1 b200 a4_0 a4_1
        replace h2 := h2 b200 a4_0 a4_1
        obtain ⟨P1, c1, h1⟩ := h1
        refine ⟨P1, c1, ?_⟩
        intro g209 a4_0 a4_1 x211 a4_2 a4_3 a4_4
        replace h1 := h1 g209 a4_0 a4_1 x211 a4_2 a4_3 a4_4
        replace h2 := h2 g209 a4_0 x211 a4_2 a4_3 a4_4
        refine ⟨fun z => ?_, fun z => ?_⟩
        · replace h1 := h1.1 z
          replace h2 := h2.1 z
          exact ⟨h1, h2⟩
        · replace h1 := h1.2 z
          replace h2 := h2.2 z
          obtain ⟨P1, c1, h1⟩ := h1
          refine ⟨P1, c1, ?_⟩
          intro g222 a5_0 a5_1
          replace h1 := h1 g222 a5_0 a5_1
          replace h2 := h2 g222 a5_0
          exact ⟨h1, h2⟩
      · replace h1 := h1.2 z
        replace h2 := h2.2 z
        exact ⟨h1, h2⟩
    · replace h1 := h1.2 z
      replace h2 := h2.2 z
      obtain ⟨P1, c1, h1⟩ := h1
      refine ⟨P1, c1, ?_⟩
      intro x229 a3_0 a3_1 g232 a3_2 a3_3
      replace h1 := h1 x229 a3_0 a3_1 g232 a3_2 a3_3
      replace h2 := h2 x229 a3_0 a3_1 g232 a3_2
      exact ⟨h1, h2⟩
set_option maxRecDepth 100000 in
def p_1300_c3 (s0 : zF) (Q : Int → zF → Prop) : Prop :=
  ∃ (I2 : zF → Int → Prop) (I11 : zF → Int → Int → Prop) (I44 : zF → Int → Int → Prop) (I66 : zF → Int → Prop),
    (I2 s0 0) ∧
    (∀ (g : zF) (v2_2 : Int), zFr [(2, 3, 0), (2, 3, 1), (20, 21, 1), (41, 42, 1), (21, 22, 1000), (42, 43, 1000), (2, 3, 7)] s0 g → 0 ≤ v2_2 → v2_2 ≤ 1601 → I2 g v2_2 → (1600 < v2_2 → Q 1 g) ∧ (v2_2 ≤ 1600 → I11 g v2_2 0)) ∧
    (∀ (g : zF) (v11_2 : Int) (v11_3 : Int), zFr [(2, 3, 0), (2, 3, 1), (20, 21, 1), (41, 42, 1), (21, 22, 1000), (42, 43, 1000), (2, 3, 7)] s0 g → 0 ≤ v11_2 → v11_2 ≤ 1600 → 0 ≤ v11_3 → v11_3 ≤ 1601 → I11 g v11_2 v11_3 → (1600 < v11_3 → I66 g v11_2) ∧ (v11_3 ≤ 1600 → ∃ P5 : Int → zF → Prop, p_1301_c3 g P5 ∧ ∀ x8 : Int, 0 ≤ x8 → x8 ≤ 1 → ∀ g11 : zF, zFr [(2, 3, 0), (2, 3, 1), (20, 21, 1), (41, 42, 1), (21, 22, 1000), (42, 43, 1000), (2, 3, 7)] g g11 → P5 x8 g11 → (¬ x8 = 0 → (0 < v11_3 → ∀ b15 : Nat, (b15 : Int) = g11 (2) 8 → (b15 = 7 ∨ b15 = 28) → ∀ g24 : zF, zFr [(b15 + 13, b15 + 14, 1), (b15 + 14, b15 + 15, 1000)] g11 g24 → I44 g24 v11_2 v11_3) ∧ (v11_3 ≤ 0 → I44 g11 v11_2 v11_3)) ∧ (x8 = 0 → Q 0 g11))) ∧
    (∀ (g : zF) (v44_2 : Int) (v44_3 : Int), zFr [(2, 3, 0), (2, 3, 1), (20, 21, 1), (41, 42, 1), (21, 22, 1000), (42, 43, 1000), (2, 3, 7)] s0 g → 0 ≤ v44_2 → v44_2 ≤ 1600 → 0 ≤ v44_3 → v44_3 ≤ 1600 → I44 g v44_2 v44_3 → ∀ x31 : Int, (-1) ≤ x31 → x31 ≤ 26 → ∀ g34 : zF, zFr [] g g34 → (¬ x31 = 22 → I66 g34 v44_2) ∧ (x31 = 22 → ∀ g42 : zF, zFr [(2, 3, 7)] g34 g42 → ∀ x44 : Int, x44 = v44_3 + 1 → I11 g42 v44_2 x44)) ∧
    (∀ (g : zF) (v66_2 : Int), zFr [(2, 3, 0), (2, 3, 1), (20, 21, 1), (41, 42, 1), (21, 22, 1000), (42, 43, 1000), (2, 3, 7)] s0 g → 0 ≤ v66_2 → v66_2 ≤ 1600 → I66 g v66_2 → (0 < v66_2 → ∀ b47 : Nat, (b47 : Int) = g (2) 8 → (b47 = 7 ∨ b47 = 28) → ∀ g56 : zF, zFr [(b47 + 13, b47 + 14, 1), (b47 + 14, b47 + 15, 1000)] g g56 → ∀ x63 : Int, (-1) ≤ x63 → x63 ≤ 26 → ∀ g66 : zF, zFr [] g56 g66 → (¬ x63 = 21 → Q 1 g66) ∧ (x63 = 21 → ∀ g74 : zF, zFr [(2, 3, 7)] g66 g74 → ∀ x76 : Int, x76 = v66_2 + 1 → I2 g74 x76)) ∧ (v66_2 ≤ 0 → ∀ x83 : Int, (-1) ≤ x83 → x83 ≤ 26 → ∀ g86 : zF, zFr [] g g86 → (¬ x83 = 21 → Q 1 g86) ∧ (x83 = 21 → ∀ g94 : zF, zFr [(2, 3, 7)] g86 g94 → ∀ x96 : Int, x96 = v66_2 + 1 → I2 g94 x96)))
set_option maxRecDepth 100000 in
theorem cj_1300_c3 {s0 : zF} {Q1 Q2 : Int → zF → Prop} (h1 : b_1300_c3 s0 Q1) (h2 : p_1300_c3 s0 Q2) : b_1300_c3 s0 (fun v g => Q1 v g ∧ Q2 v g) := by
  obtain ⟨I2, I11, I44, I66, h1E, h1_0, h1_1, h1_2, h1_3⟩ := h1
  obtain ⟨J2, J11, J44, J66, h2E, h2_0, h2_1, h2_2, h2_3⟩ := h2
  refine ⟨fun n g y0 => I2 n g y0 ∧ J2 g y0, fun n g y0 y1 => I11 n g y0 y1 ∧ J11 g y0 y1, fun n g y0 y1 => I44 n g y0 y1 ∧ J44 g y0 y1, fun n g y0 => I66 n g y0 ∧ J66 g y0, ?_, ?_, ?_, ?_, ?_⟩
  · have h1 := h1E
    have h2 := h2E
    clear h1E h2E h1_0 h2_0 h1_1 h2_1 h1_2 h2_2 h1_3 h2_3
    obtain ⟨m, hi⟩ := h1
    exact ⟨m, hi, h2⟩
  · intro n g v2_2 e0 e1 e2 hI
    have h1 := h1_0 n g v2_2 e0 e1 e2 hI.1
    have h2 := h2_0 g v2_2 e0 e1 e2 hI.2
    clear h1E h2E hI h1_0 h2_0 h1_1 h2_1 h1_2 h2_2 h1_3 h2_3
    refine ⟨fun z => ?_, fun z => ?_⟩
    · replace h1 := h1.1 z
      replace h2 := h2.1 z
      exact ⟨h1, h2⟩
    · replace h1 := h1.2 z
      replace h2 := h2.2 z
      obtain ⟨m, hm, hi⟩ := h1
      exact ⟨m, hm, hi, h2⟩
  · intro n g v11_2 v11_3 e0 e1 e2 e3 e4 hI
    have h1 := h1_1 n g v11_2 v11_3 e0 e1 e2 e3 e4 hI.1
    have h2 := h2_1 g v11_2 v11_3 e0 e1 e2 e3 e4 hI.2
    clear h1E h2E hI h1_0 h2_0 h1_1 h2_1 h1_2 h2_2 h1_3 h2_3
    refine ⟨fun z => ?_, fun z => ?_⟩
    · replace h1 := h1.1 z
      replace h2 := h2.1 z
      obtain ⟨m, hm, hi⟩ := h1
      exact ⟨m, hm, hi, h2⟩
    · replace h1 := h1.2 z
      replace h2 := h2.2 z
      obtain ⟨P1, c1, h1⟩ := h1
      obtain ⟨P2, c2, h2⟩ := h2
      refine ⟨fun v g => P1 v g ∧ P2 v g, cj_1301_c3 c1 c2, ?_⟩
      intro x8 a3_0 a3_1 g11 a3_2 a3_3
      replace h1 := h1 x8 a3_0 a3_1 g11 a3_2 a3_3.1
      replace h2 := h2 x8 a3_0 a3_1 g11 a3_2 a3_3.2
      refine ⟨fun z => ?_, fun z => ?_⟩
      · replace h1 := h1.1 z
        replace h2 := h2.1 z
        refine ⟨fun z => ?_, fun z => ?_⟩
        · replace h1 := h1.1 z
          replace h2 := h2.1 z
          intro b15 a5_0 a5_1
          replace h1 := h1 b15 a5_0 a5_1
          replace h2 := h2 b15 a5_0 a5_1
          obtain ⟨P1, c1, h1⟩ := h1
          refine ⟨P1, c1, ?_⟩
          intro g24 a5_0 a5_1
          replace h1 := h1 g24 a5_0 a5_1
          replace h2 := h2 g24 a5_0
          obtain ⟨m, hm, hi⟩ := h1
          exact ⟨m, hm, hi, h2⟩
        · replace h1 := h1.2 z
          replace h2 := h2.2 z
          obtain ⟨m, hm, hi⟩ := h1
          exact ⟨m, hm, hi, h2⟩
      · replace h1 := h1.2 z
        replace h2 := h2.2 z
        exact ⟨h1, h2⟩
  · intro n g v44_2 v44_3 e0 e1 e2 e3 e4 hI
    have h1 := h1_2 n g v44_2 v44_3 e0 e1 e2 e3 e4 hI.1
    have h2 := h2_2 g v44_2 v44_3 e0 e1 e2 e3 e4 hI.2
    clear h1E h2E hI h1_0 h2_0 h1_1 h2_1 h1_2 h2_2 h1_3 h2_3
    obtain ⟨P1, c1, h1⟩ := h1
    refine ⟨P1, c1, ?_⟩
    intro x31 a2_0 a2_1 g34 a2_2 a2_3
    replace h1 := h1 x31 a2_0 a2_1 g34 a2_2 a2_3
    replace h2 := h2 x31 a2_0 a2_1 g34 a2_2
    refine ⟨fun z => ?_, fun z => ?_⟩
    · replace h1 := h1.1 z
      replace h2 := h2.1 z
      obtain ⟨m, hm, hi⟩ := h1
      exact ⟨m, hm, hi, h2⟩
    · replace h1 := h1.2 z
      replace h2 := h2.2 z
      obtain ⟨P1, c1, h1⟩ := h1
      refine ⟨P1, c1, ?_⟩
      intro g42 a3_0 a3_1 x44 a3_2
      replace h1 := h1 g42 a3_0 a3_1 x44 a3_2
      replace h2 := h2 g42 a3_0 x44 a3_2
      obtain ⟨m, hm, hi⟩ := h1
      exact ⟨m, hm, hi, h2⟩
  · intro n g v66_2 e0 e1 e2 hI
    have h1 := h1_3 n g v66_2 e0 e1 e2 hI.1
    have h2 := h2_3 g v66_2 e0 e1 e2 hI.2
    clear h1E h2E hI h1_0 h2_0 h1_1 h2_1 h1_2 h2_2 h1_3 h2_3
    refine ⟨fun z => ?_, fun z => ?_⟩
    · replace h1 := h1.1 z
      replace h2 := h2.1 z
      intro b47 a3_0 a3_1
      replace h1 := h1 b47 a3_0 a3_1
      replace h2 := h2 b47 a3_0 a3_1
      obtain ⟨P1, c1, h1⟩ := h1
      refine ⟨P1, c1, ?_⟩
      intro g56 a3_0 a3_1
      replace h1 := h1 g56 a3_0 a3_1
      replace h2 := h2 g56 a3_0
      obtain ⟨P1, c1, h1⟩ := h1
      refine ⟨P1, c1, ?_⟩
      intro x63 a3_0 a3_1 g66 a3_2 a3_3
      replace h1 := h1 x63 a3_0 a3_1 g66 a3_2 a3_3
      replace h2 := h2 x63 a3_0 a3_1 g66 a3_2
      refine ⟨fun z => ?_, fun z => ?_⟩
      · replace h1 := h1.1 z
        replace h2 := h2.1 z
        exact ⟨h1, h2⟩
      · replace h1 := h1.2 z
        replace h2 := h2.2 z
        obtain ⟨P1, c1, h1⟩ := h1
        refine ⟨P1, c1, ?_⟩
        intro g74 a4_0 a4_1 x76 a4_2
        replace h1 := h1 g74 a4_0 a4_1 x76 a4_2
        replace h2 := h2 g74 a4_0 x76 a4_2
        obtain ⟨m, hm, hi⟩ := h1
        exact ⟨m, hm, hi, h2⟩
    · replace h1 := h1.2 z
      replace h2 := h2.2 z
      obtain ⟨P1, c1, h1⟩ := h1
      refine ⟨P1, c1, ?_⟩
      intro x83 a3_0 a3_1 g86 a3_2 a3_3
      replace h1 := h1 x83 a3_0 a3_1 g86 a3_2 a3_3
      replace h2 := h2 x83 a3_0 a3_1 g86 a3_2
      refine ⟨fun z => ?_, fun z => ?_⟩
      · replace h1 := h1.1 z
        replace h2 := h2.1 z
        exact ⟨h1, h2⟩
      · replace h1 := h1.2 z
        replace h2 := h2.2 z
        obtain ⟨P1, c1, h1⟩ := h1
        refine ⟨P1, c1, ?_⟩
        intro g94 a4_0 a4_1 x96 a4_2
        replace h1 := h1 g94 a4_0 a4_1 x96 a4_2
        replace h2 := h2 g94 a4_0 x96 a4_2
        obtain ⟨m, hm, hi⟩ := h1
        exact ⟨m, hm, hi, h2⟩
set_option maxRecDepth 100000 in
def p_1301_c2 (s0 : zF) (Q : Int → zF → Prop) : Prop :=
  ∃ (I2 : zF → Int → Prop) (I28 : zF → Int → Prop) (I167 : zF → Int → Int → Prop),
    (I2 s0 0) ∧
    (∀ (g : zF) (v2_2 : Int), zFr [(2, 3, 0), (2, 3, 1), (20, 21, 1), (41, 42, 1), (21, 22, 1000), (42, 43, 1000), (2, 3, 7)] s0 g → 0 ≤ v2_2 → v2_2 ≤ 1601 → I2 g v2_2 → (1600 < v2_2 → I28 g v2_2) ∧ (v2_2 ≤ 1600 → ∀ x7 : Int, (-1) ≤ x7 → x7 ≤ 26 → ∀ g10 : zF, zFr [] g g10 → (¬ x7 = 23 → I28 g10 v2_2) ∧ (x7 = 23 → ∀ g18 : zF, zFr [(2, 3, 7)] g10 g18 → ∀ x20 : Int, x20 = v2_2 + 1 → I2 g18 x20))) ∧
    (∀ (g : zF) (v28_2 : Int), zFr [(2, 3, 0), (2, 3, 1), (20, 21, 1), (41, 42, 1), (21, 22, 1000), (42, 43, 1000), (2, 3, 7)] s0 g → 0 ≤ v28_2 → v28_2 ≤ 1601 → I28 g v28_2 → ∀ x27 : Int, 0 ≤ x27 → x27 ≤ 1 → ∀ g30 : zF, zFr [] g g30 → (¬ x27 = 0 → ∀ g38 : zF, zFr [(2, 3, 7)] g30 g38 → ∃ P42 : Int → zF → Prop, p_1300_c3 g38 P42 ∧ ∀ x45 : Int, 0 ≤ x45 → x45 ≤ 1 → ∀ g48 : zF, zFr [(2, 3, 0), (2, 3, 1), (20, 21, 1), (41, 42, 1), (21, 22, 1000), (42, 43, 1000), (2, 3, 7)] g38 g48 → P42 x45 g48 → (¬ x45 = 0 → ∀ x56 : Int, 0 ≤ x56 → x56 ≤ 1 → ∀ g59 : zF, zFr [] g48 g59 → (¬ x56 = 0 → ∀ g67 : zF, zFr [(2, 3, 7)] g59 g67 → ∀ x69 : Int, 0 ≤ x69 → x69 < 2 → x69 = v28_2 % 2 → (¬ x69 = 1 → Q 1 g67) ∧ (x69 = 1 → ∀ b74 : Nat, (b74 : Int) = g67 (2) 8 → (b74 = 7 ∨ b74 = 28) → ∀ g83 : zF, zFr [(b74 + 13, b74 + 14, 1), (b74 + 14, b74 + 15, 1000)] g67 g83 → Q 1 g83)) ∧ (x56 = 0 → ∀ x90 : Int, 0 ≤ x90 → x90 ≤ 0 → ∀ g93 : zF, zFr [(2, 3, 0), (2, 3, 1)] g59 g93 → Q x90 g93)) ∧ (x45 = 0 → Q 0 g48)) ∧ (x27 = 0 → ∀ x100 : Int, (-1) ≤ x100 → x100 ≤ 26 → ∀ g103 : zF, zFr [] g30 g103 → (¬ x100 = 24 → ∃ P108 : Int → zF → Prop, p_1297_c2 g103 P108 ∧ ∀ x111 : Int, 0 ≤ x111 → x111 ≤ 1 → ∀ g114 : zF, zFr [(2, 3, 0), (2, 3, 1), (20, 21, 1), (41, 42, 1), (21, 22, 1000), (42, 43, 1000), (2, 3, 7)] g103 g114 → P108 x111 g114 → (¬ x111 = 0 → ∀ x122 : Int, 0 ≤ x122 → x122 ≤ 1 → ∀ g125 : zF, zFr [] g114 g125 → (¬ x122 = 0 → I167 g125 v28_2 (-14)) ∧ (x122 = 0 → ∀ x133 : Int, 0 ≤ x133 → x133 ≤ 1 → ∀ g136 : zF, zFr [] g125 g136 → (¬ x133 = 0 → I167 g136 v28_2 (-15)) ∧ (x133 = 0 → ∀ x144 : Int, 0 ≤ x144 → x144 ≤ 1 → ∀ g147 : zF, zFr [] g136 g147 → (¬ x144 = 0 → I167 g147 v28_2 (-16)) ∧ (x144 = 0 → I167 g147 v28_2 0)))) ∧ (x111 = 0 → Q 0 g114)) ∧ (x100 = 24 → ∀ g155 : zF, zFr [(2, 3, 7)] g103 g155 → ∀ b157 : Nat, (b157 : Int) = g155 (2) 8 → (b157 = 7 ∨ b157 = 28) → ∀ g166 : zF, zFr [(b157 + 13, b157 + 14, 1), (b157 + 14, b157 + 15, 1000)] g155 g166 → ∀ x168 : Int, 0 ≤ x168 → x168 < 2 → x168 = v28_2 % 2 → (¬ x168 = 1 → Q 1 g166) ∧ (x168 = 1 → ∀ g179 : zF, zFr [(b157 + 13, b157 + 14, 1), (b157 + 14, b157 + 15, 1000)] g166 g179 → Q 1 g179)))) ∧
    (∀ (g : zF) (v167_2 : Int) (s167_0 : Int), zFr [(2, 3, 0), (2, 3, 1), (20, 21, 1), (41, 42, 1), (21, 22, 1000), (42, 43, 1000), (2, 3, 7)] s0 g → 0 ≤ v167_2 → v167_2 ≤ 1601 → (-16) ≤ s167_0 → s167_0 ≤ 0 → I167 g v167_2 s167_0 → (¬ s167_0 = 0 → ∀ g187 : zF, zFr [(2, 3, 7)] g g187 → ∃ P191 : Int → zF → Prop, p_1297_c2 g187 P191 ∧ ∀ x194 : Int, 0 ≤ x194 → x194 ≤ 1 → ∀ g197 : zF, zFr [(2, 3, 0), (2, 3, 1), (20, 21, 1), (41, 42, 1), (21, 22, 1000), (42, 43, 1000), (2, 3, 7)] g187 g197 → P191 x194 g197 → (¬ x194 = 0 → ∀ b200 : Nat, (b200 : Int) = g197 (2) 8 → (b200 = 7 ∨ b200 = 28) → ∀ g209 : zF, zFr [(b200 + 13, b200 + 14, 1), (b200 + 14, b200 + 15, 1000)] g197 g209 → ∀ x211 : Int, 0 ≤ x211 → x211 < 2 → x211 = v167_2 % 2 → (¬ x211 = 1 → Q 1 g209) ∧ (x211 = 1 → ∀ g222 : zF, zFr [(b200 + 13, b200 + 14, 1), (b200 + 14, b200 + 15, 1000)] g209 g222 → Q 1 g222)) ∧ (x194 = 0 → Q 0 g197)) ∧ (s167_0 = 0 → ∀ x229 : Int, 0 ≤ x229 → x229 ≤ 0 → ∀ g232 : zF, zFr [(2, 3, 0), (2, 3, 1)] g g232 → Q x229 g232))
set_option maxRecDepth 100000 in
theorem cj_1301_c2 {s0 : zF} {Q1 Q2 : Int → zF → Prop} (h1 : b_1301_c2 s0 Q1) (h2 : p_1301_c2 s0 Q2) : b_1301_c2 s0 (fun v g => Q1 v g ∧ Q2 v g) := by
  obtain ⟨I2, I28, I167, h1E, h1_0, h1_1, h1_2⟩ := h1
  obtain ⟨J2, J28, J167, h2E, h2_0, h2_1, h2_2⟩ := h2
  refine ⟨fun n g y0 => I2 n g y0 ∧ J2 g y0, fun n g y0 => I28 n g y0 ∧ J28 g y0, fun n g y0 y1 => I167 n g y0 y1 ∧ J167 g y0 y1, ?_, ?_, ?_, ?_⟩
  · have h1 := h1E
    have h2 := h2E
    clear h1E h2E h1_0 h2_0 h1_1 h2_1 h1_2 h2_2
    obtain ⟨m, hi⟩ := h1
    exact ⟨m, hi, h2⟩
  · intro n g v2_2 e0 e1 e2 hI
    have h1 := h1_0 n g v2_2 e0 e1 e2 hI.1
    have h2 := h2_0 g v2_2 e0 e1 e2 hI.2
    clear h1E h2E hI h1_0 h2_0 h1_1 h2_1 h1_2 h2_2
    refine ⟨fun z => ?_, fun z => ?_⟩
    · replace h1 := h1.1 z
      replace h2 := h2.1 z
      obtain ⟨m, hm, hi⟩ := h1
      exact ⟨m, hm, hi, h2⟩
    · replace h1 := h1.2 z
      replace h2 := h2.2 z
      obtain ⟨P1, c1, h1⟩ := h1
      refine ⟨P1, c1, ?_⟩
      intro x7 a3_0 a3_1 g10 a3_2 a3_3
      replace h1 := h1 x7 a3_0 a3_1 g10 a3_2 a3_3
      replace h2 := h2 x7 a3_0 a3_1 g10 a3_2
      refine ⟨fun z => ?_, fun z => ?_⟩
      · replace h1 := h1.1 z
        replace h2 := h2.1 z
        obtain ⟨m, hm, hi⟩ := h1
        exact ⟨m, hm, hi, h2⟩
      · replace h1 := h1.2 z
        replace h2 := h2.2 z
        obtain ⟨P1, c1, h1⟩ := h1
        refine ⟨P1, c1, ?_⟩
        intro g18 a4_0 a4_1 x20 a4_2
        replace h1 := h1 g18 a4_0 a4_1 x20 a4_2
        replace h2 := h2 g18 a4_0 x20 a4_2
        obtain ⟨m, hm, hi⟩ := h1
        exact ⟨m, hm, hi, h2⟩
  · intro n g v28_2 e0 e1 e2 hI
    have h1 := h1_1 n g v28_2 e0 e1 e2 hI.1
    have h2 := h2_1 g v28_2 e0 e1 e2 hI.2
    clear h1E h2E hI h1_0 h2_0 h1_1 h2_1 h1_2 h2_2
    obtain ⟨P1, c1, h1⟩ := h1
    refine ⟨P1, c1, ?_⟩
    intro x27 a2_0 a2_1 g30 a2_2 a2_3
    replace h1 := h1 x27 a2_0 a2_1 g30 a2_2 a2_3
    replace h2 := h2 x27 a2_0 a2_1 g30 a2_2
    refine ⟨fun z => ?_, fun z => ?_⟩
    · replace h1 := h1.1 z
      replace h2 := h2.1 z
      obtain ⟨P1, c1, h1⟩ := h1
      refine ⟨P1, c1, ?_⟩
      intro g38 a3_0 a3_1
      replace h1 := h1 g38 a3_0 a3_1
      replace h2 := h2 g38 a3_0
      obtain ⟨P1, c1, h1⟩ := h1
      obtain ⟨P2, c2, h2⟩ := h2
      refine ⟨fun v g => P1 v g ∧ P2 v g, cj_1300_c3 c1 c2, ?_⟩
      intro x45 a3_0 a3_1 g48 a3_2 a3_3
      replace h1 := h1 x45 a3_0 a3_1 g48 a3_2 a3_3.1
      replace h2 := h2 x45 a3_0 a3_1 g48 a3_2 a3_3.2
      refine ⟨fun z => ?_, fun z => ?_⟩
      · replace h1 := h1.1 z
        replace h2 := h2.1 z
        obtain ⟨P1, c1, h1⟩ := h1
        refine ⟨P1, c1, ?_⟩
        intro x56 a4_0 a4_1 g59 a4_2 a4_3
        replace h1 := h1 x56 a4_0 a4_1 g59 a4_2 a4_3
        replace h2 := h2 x56 a4_0 a4_1 g59 a4_2
        refine ⟨fun z => ?_, fun z => ?_⟩
        · replace h1 := h1.1 z
          replace h2 := h2.1 z
          obtain ⟨P1, c1, h1⟩ := h1
          refine ⟨P1, c1, ?_⟩
          intro g67 a5_0 a5_1 x69 a5_2 a5_3 a5_4
          replace h1 := h1 g67 a5_0 a5_1 x69 a5_2 a5_3 a5_4
          replace h2 := h2 g67 a5_0 x69 a5_2 a5_3 a5_4
          refine ⟨fun z => ?_, fun z => ?_⟩
          · replace h1 := h1.1 z
            replace h2 := h2.1 z
            exact ⟨h1, h2⟩
          · replace h1 := h1.2 z
            replace h2 := h2.2 z
            intro b74 a6_0 a6_1
            replace h1 := h1 b74 a6_0 a6_1
            replace h2 := h2 b74 a6_0 a6_1
            obtain ⟨P1, c1, h1⟩ := h1
            refine ⟨P1, c1, ?_⟩
            intro g83 a6_0 a6_1
            replace h1 := h1 g83 a6_0 a6_1
            replace h2 := h2 g83 a6_0
            exact ⟨h1, h2⟩
        · replace h1 := h1.2 z
          replace h2 := h2.2 z
          obtain ⟨P1, c1, h1⟩ := h1
          refine ⟨P1, c1, ?_⟩
          intro x90 a5_0 a5_1 g93 a5_2 a5_3
          replace h1 := h1 x90 a5_0 a5_1 g93 a5_2 a5_3
          replace h2 := h2 x90 a5_0 a5_1 g93 a5_2
          exact ⟨h1, h2⟩
      · replace h1 := h1.2 z
        replace h2 := h2.2 z
        exact ⟨h1, h2⟩
    · replace h1 := h1.2 z
      replace h2 := h2.2 z
      obtain ⟨P1, c1, h1⟩ := h1
      refine ⟨P1, c1, ?_⟩
      intro x100 a3_0 a3_1 g103 a3_2 a3_3
      replace h1 := h1 x100 a3_0 a3_1 g103 a3_2 a3_3
      replace h2 := h2 x100 a3_0 a3_1 g103 a3_2
      refine ⟨fun z => ?_, fun z => ?_⟩
      · replace h1 := h1.1 z
        replace h2 := h2.1 z
        obtain ⟨P1, c1, h1⟩ := h1
        obtain ⟨P2, c2, h2⟩ := h2
        refine ⟨fun v g => P1 v g ∧ P2 v g, cj_1297_c2 c1 c2, ?_⟩
        intro x111 a4_0 a4_1 g114 a4_2 a4_3
        replace h1 := h1 x111 a4_0 a4_1 g114 a4_2 a4_3.1
        replace h2 := h2 x111 a4_0 a4_1 g114 a4_2 a4_3.2
        refine ⟨fun z => ?_, fun z => ?_⟩
        · replace h1 := h1.1 z
          replace h2 := h2.1 z
          obtain ⟨P1, c1, h1⟩ := h1
          refine ⟨P1, c1, ?_⟩
          intro x122 a5_0 a5_1 g125 a5_2 a5_3
          replace h1 := h1 x122 a5_0 a5_1 g125 a5_2 a5_3
          replace h2 := h2 x122 a5_0 a5_1 g125 a5_2
          refine ⟨fun z => ?_, fun z => ?_⟩
          · replace h1 := h1.1 z
            replace h2 := h2.1 z
            obtain ⟨m, hm, hi⟩ := h1
            exact ⟨m, hm, hi, h2⟩
          · replace h1 := h1.2 z
            replace h2 := h2.2 z
            obtain ⟨P1, c1, h1⟩ := h1
            refine ⟨P1, c1, ?_⟩
            intro x133 a6_0 a6_1 g136 a6_2 a6_3
            replace h1 := h1 x133 a6_0 a6_1 g136 a6_2 a6_3
            replace h2 := h2 x133 a6_0 a6_1 g136 a6_2
            refine ⟨fun z => ?_, fun z => ?_⟩
            · replace h1 := h1.1 z
              replace h2 := h2.1 z
              obtain ⟨m, hm, hi⟩ := h1
              exact ⟨m, hm, hi, h2⟩
            · replace h1 := h1.2 z
              replace h2 := h2.2 z
              obtain ⟨P1, c1, h1⟩ := h1
              refine ⟨P1, c1, ?_⟩
              intro x144 a7_0 a7_1 g147 a7_2 a7_3
              replace h1 := h1 x144 a7_0 a7_1 g147 a7_2 a7_3
              replace h2 := h2 x144 a7_0 a7_1 g147 a7_2
              refine ⟨fun z => ?_, fun z => ?_⟩
              · replace h1 := h1.1 z
                replace h2 := h2.1 z
                obtain ⟨m, hm, hi⟩ := h1
                exact ⟨m, hm, hi, h2⟩
              · replace h1 := h1.2 z
                replace h2 := h2.2 z
                obtain ⟨m, hm, hi⟩ := h1
                exact ⟨m, hm, hi, h2⟩
        · replace h1 := h1.2 z
          replace h2 := h2.2 z
          exact ⟨h1, h2⟩
      · replace h1 := h1.2 z
        replace h2 := h2.2 z
        obtain ⟨P1, c1, h1⟩ := h1
        refine ⟨P1, c1, ?_⟩
        intro g155 a4_0 a4_1 b157 a4_2 a4_3
        replace h1 := h1 g155 a4_0 a4_1 b157 a4_2 a4_3
        replace h2 := h2 g155 a4_0 b157 a4_2 a4_3
        obtain ⟨P1, c1, h1⟩ := h1
        refine ⟨P1, c1, ?_⟩
        intro g166 a4_0 a4_1 x168 a4_2 a4_3 a4_4
        replace h1 := h1 g166 a4_0 a4_1 x168 a4_2 a4_3 a4_4
        replace h2 := h2 g166 a4_0 x168 a4_2 a4_3 a4_4
        refine ⟨fun z => ?_, fun z => ?_⟩
        · replace h1 := h1.1 z
          replace h2 := h2.1 z
          exact ⟨h1, h2⟩
        · replace h1 := h1.2 z
          replace h2 := h2.2 z
          obtain ⟨P1, c1, h1⟩ := h1
          refine ⟨P1, c1, ?_⟩
          intro g179 a5_0 a5_1
          replace h1 := h1 g179 a5_0 a5_1
          replace h2 := h2 g179 a5_0
          exact ⟨h1, h2⟩
  · intro n g v167_2 s167_0 e0 e1 e2 e3 e4 hI
    have h1 := h1_2 n g v167_2 s167_0 e0 e1 e2 e3 e4 hI.1
    have h2 := h2_2 g v167_2 s167_0 e0 e1 e2 e3 e4 hI.2
    clear h1E h2E hI h1_0 h2_0 h1_1 h2_1 h1_2 h2_2
    refine ⟨fun z => ?_, fun z => ?_⟩
    · replace h1 := h1.1 z
      replace h2 := h2.1 z
      obtain ⟨P1, c1, h1⟩ := h1
      refine ⟨P1, c1, ?_⟩
      intro g187 a3_0 a3_1
      replace h1 := h1 g187 a3_0 a3_1
      replace h2 := h2 g187 a3_0
      obtain ⟨P1, c1, h1⟩ := h1
      obtain ⟨P2, c2, h2⟩ := h2
      refine ⟨fun v g => P1 v g ∧ P2 v g, cj_1297_c2 c1 c2, ?_⟩
      intro x194 a3_0 a3_1 g197 a3_2 a3_3
      replace h1 := h1 x194 a3_0 a3_1 g197 a3_2 a3_3.1
      replace h2 := h2 x194 a3_0 a3_1 g197 a3_2 a3_3.2
      refine ⟨fun z => ?_, fun z => ?_⟩
      · replace h1 := h1.1 z
        replace h2 := h2.1 z
        intro b200 a4_0 a4_1
        replace h1 := h1 b200 a4_0 a4_1
        replace h2 := h2 b200 a4_0 a4_1
        obtain ⟨P1, c1, h1⟩ := h1
        refine ⟨P1, c1, ?_⟩
        intro g209 a4_0 a4_1 x211 a4_2 a4_3 a4_4
        replace h1 := h1 g209 a4_0 a4_1 x211 a4_2 a4_3 a4_4
        replace h2 := h2 g209 a4_0 x211 a4_2 a4_3 a4_4
        refine ⟨fun z => ?_, fun z => ?_⟩
        · replace h1 := h1.1 z
          replace h2 := h2.1 z
          exact ⟨h1, h2⟩
        · replace h1 := h1.2 z
          replace h2 := h2.2 z
          obtain ⟨P1, c1, h1⟩ := h1
          refine ⟨P1, c1, ?_⟩
          intro g222 a5_0 a5_1
          replace h1 := h1 g222 a5_0 a5_1
          replace h2 := h2 g222 a5_0
          exact ⟨h1, h2⟩
      · replace h1 := h1.2 z
        replace h2 := h2.2 z
        exact ⟨h1, h2⟩
    · replace h1 := h1.2 z
      replace h2 := h2.2 z
      obtain ⟨P1, c1, h1⟩ := h1
      refine ⟨P1, c1, ?_⟩
      intro x229 a3_0 a3_1 g232 a3_2 a3_3
      replace h1 := h1 x229 a3_0 a3_1 g232 a3_2 a3_3
      replace h2 := h2 x229 a3_0 a3_1 g232 a3_2
      exact ⟨h1, h2⟩
set_option maxRecDepth 100000 in
def p_1300_c2 (s0 : zF) (Q : Int → zF → Prop) : Prop :=
  ∃ (I2 : zF → Int → Prop) (I11 : zF → Int → Int → Prop) (I44 : zF → Int → Int → Prop) (I66 : zF → Int → Prop),
    (I2 s0 0) ∧
    (∀ (g : zF) (v2_2 : Int), zFr [(2, 3, 0), (2, 3, 1), (20, 21, 1), (41, 42, 1), (21, 22, 1000), (42, 43, 1000), (2, 3, 7)] s0 g → 0 ≤ v2_2 → v2_2 ≤ 1601 → I2 g v2_2 → (1600 < v2_2 → Q 1 g) ∧ (v2_2 ≤ 1600 → I11 g v2_2 0)) ∧
    (∀ (g : zF) (v11_2 : Int) (v11_3 : Int), zFr [(2, 3, 0), (2, 3, 1), (20, 21, 1), (41, 42, 1), (21, 22, 1000), (42, 43, 1000), (2, 3, 7)] s0 g → 0 ≤ v11_2 → v11_2 ≤ 1600 → 0 ≤ v11_3 → v11_3 ≤ 1601 → I11 g v11_2 v11_3 → (1600 < v11_3 → I66 g v11_2) ∧ (v11_3 ≤ 1600 → ∃ P5 : Int → zF → Prop, p_1301_c2 g P5 ∧ ∀ x8 : Int, 0 ≤ x8 → x8 ≤ 1 → ∀ g11 : zF, zFr [(2, 3, 0), (2, 3, 1), (20, 21, 1), (41, 42, 1), (21, 22, 1000), (42, 43, 1000), (2, 3, 7)] g g11 → P5 x8 g11 → (¬ x8 = 0 → (0 < v11_3 → ∀ b15 : Nat, (b15 : Int) = g11 (2) 8 → (b15 = 7 ∨ b15 = 28) → ∀ g24 : zF, zFr [(b15 + 13, b15 + 14, 1), (b15 + 14, b15 + 15, 1000)] g11 g24 → I44 g24 v11_2 v11_3) ∧ (v11_3 ≤ 0 → I44 g11 v11_2 v11_3)) ∧ (x8 = 0 → Q 0 g11))) ∧
    (∀ (g : zF) (v44_2 : Int) (v44_3 : Int), zFr [(2, 3, 0), (2, 3, 1), (20, 21, 1), (41, 42, 1), (21, 22, 1000), (42, 43, 1000), (2, 3, 7)] s0 g → 0 ≤ v44_2 → v44_2 ≤ 1600 → 0 ≤ v44_3 → v44_3 ≤ 1600 → I44 g v44_2 v44_3 → ∀ x31 : Int, (-1) ≤ x31 → x31 ≤ 26 → ∀ g34 : zF, zFr [] g g34 → (¬ x31 = 22 → I66 g34 v44_2) ∧ (x31 = 22 → ∀ g42 : zF, zFr [(2, 3, 7)] g34 g42 → ∀ x44 : Int, x44 = v44_3 + 1 → I11 g42 v44_2 x44)) ∧
    (∀ (g : zF) (v66_2 : Int), zFr [(2, 3, 0), (2, 3, 1), (20, 21, 1), (41, 42, 1), (21, 22, 1000), (42, 43, 1000), (2, 3, 7)] s0 g → 0 ≤ v66_2 → v66_2 ≤ 1600 → I66 g v66_2 → (0 < v66_2 → ∀ b47 : Nat, (b47 : Int) = g (2) 8 → (b47 = 7 ∨ b47 = 28) → ∀ g56 : zF, zFr [(b47 + 13, b47 + 14, 1), (b47 + 14, b47 + 15, 1000)] g g56 → ∀ x63 : Int, (-1) ≤ x63 → x63 ≤ 26 → ∀ g66 : zF, zFr [] g56 g66 → (¬ x63 = 21 → Q 1 g66) ∧ (x63 = 21 → ∀ g74 : zF, zFr [(2, 3, 7)] g66 g74 → ∀ x76 : Int, x76 = v66_2 + 1 → I2 g74 x76)) ∧ (v66_2 ≤ 0 → ∀ x83 : Int, (-1) ≤ x83 → x83 ≤ 26 → ∀ g86 : zF, zFr [] g g86 → (¬ x83 = 21 → Q 1 g86) ∧ (x83 = 21 → ∀ g94 : zF, zFr [(2, 3, 7)] g86 g94 → ∀ x96 : Int, x96 = v66_2 + 1 → I2 g94 x96)))
set_option maxRecDepth 100000 in
theorem cj_1300_c2 {s0 : zF} {Q1 Q2 : Int → zF → Prop} (h1 : b_1300_c2 s0 Q1) (h2 : p_1300_c2 s0 Q2) : b_1300_c2 s0 (fun v g => Q1 v g ∧ Q2 v g) := by
  obtain ⟨I2, I11, I44, I66, h1E, h1_0, h1_1, h1_2, h1_3⟩ := h1
  obtain ⟨J2, J11, J44, J66, h2E, h2_0, h2_1, h2_2, h2_3⟩ := h2
  refine ⟨fun n g y0 => I2 n g y0 ∧ J2 g y0, fun n g y0 y1 => I11 n g y0 y1 ∧ J11 g y0 y1, fun n g y0 y1 => I44 n g y0 y1 ∧ J44 g y0 y1, fun n g y0 => I66 n g y0 ∧ J66 g y0, ?_, ?_, ?_, ?_, ?_⟩
  · have h1 := h1E
    have h2 := h2E
    clear h1E h2E h1_0 h2_0 h1_1 h2_1 h1_2 h2_2 h1_3 h2_3
    obtain ⟨m, hi⟩ := h1
    exact ⟨m, hi, h2⟩
  · intro n g v2_2 e0 e1 e2 hI
    have h1 := h1_0 n g v2_2 e0 e1 e2 hI.1
    have h2 := h2_0 g v2_2 e0 e1 e2 hI.2
    clear h1E h2E hI h1_0 h2_0 h1_1 h2_1 h1_2 h2_2 h1_3 h2_3
    refine ⟨fun z => ?_, fun z => ?_⟩
    · replace h1 := h1.1 z
      replace h2 := h2.1 z
      exact ⟨h1, h2⟩
    · replace h1 := h1.2 z
      replace h2 := h2.2 z
      obtain ⟨m, hm, hi⟩ := h1
      exact ⟨m, hm, hi, h2⟩
  · intro n g v11_2 v11_3 e0 e1 e2 e3 e4 hI
    have h1 := h1_1 n g v11_2 v11_3 e0 e1 e2 e3 e4 hI.1
    have h2 := h2_1 g v11_2 v11_3 e0 e1 e2 e3 e4 hI.2
    clear h1E h2E hI h1_0 h2_0 h1_1 h2_1 h1_2 h2_2 h1_3 h2_3
    refine ⟨fun z => ?_, fun z => ?_⟩
    · replace h1 := h1.1 z
      replace h2 := h2.1 z
      obtain ⟨m, hm, hi⟩ := h1
      exact ⟨m, hm, hi, h2⟩
    · replace h1 := h1.2 z
      replace h2 := h2.2 z
      obtain ⟨P1, c1, h1⟩ := h1
      obtain ⟨P2, c2, h2⟩ := h2
      refine ⟨fun v g => P1 v g ∧ P2 v g, cj_1301_c2 c1 c2, ?_⟩
      intro x8 a3_0 a3_1 g11 a3_2 a3_3
      replace h1 := h1 x8 a3_0 a3_1 g11 a3_2 a3_3.1
      replace h2 := h2 x8 a3_0 a3_1 g11 a3_2 a3_3.2
      refine ⟨fun z => ?_, fun z => ?_⟩
      · replace h1 := h1.1 z
        replace h2 := h2.1 z
        refine ⟨fun z => ?_, fun z => ?_⟩
        · replace h1 := h1.1 z
          replace h2 := h2.1 z
          intro b15 a5_0 a5_1
          replace h1 := h1 b15 a5_0 a5_1
          replace h2 := h2 b15 a5_0 a5_1
          obtain ⟨P1, c1, h1⟩ := h1
          refine ⟨P1, c1, ?_⟩
          intro g24 a5_0 a5_1
          replace h1 := h1 g24 a5_0 a5_1
          replace h2 := h2 g24 a5_0
          obtain ⟨m, hm, hi⟩ := h1
          exact ⟨m, hm, hi, h2⟩
        · replace h1 := h1.2 z
          replace h2 := h2.2 z
          obtain ⟨m, hm, hi⟩ := h1
          exact ⟨m, hm, hi, h2⟩
      · replace h1 := h1.2 z
        replace h2 := h2.2 z
        exact ⟨h1, h2⟩
  · intro n g v44_2 v44_3 e0 e1 e2 e3 e4 hI
    have h1 := h1_2 n g v44_2 v44_3 e0 e1 e2 e3 e4 hI.1
    have h2 := h2_2 g v44_2 v44_3 e0 e1 e2 e3 e4 hI.2
    clear h1E h2E hI h1_0 h2_0 h1_1 h2_1 h1_2 h2_2 h1_3 h2_3
    obtain ⟨P1, c1, h1⟩ := h1
    refine ⟨P1, c1, ?_⟩
    intro x31 a2_0 a2_1 g34 a2_2 a2_3
    replace h1 := h1 x31 a2_0 a2_1 g34 a2_2 a2_3
    replace h2 := h2 x31 a2_0 a2_1 g34 a2_2
    refine ⟨fun z => ?_, fun z => ?_⟩
    · replace h1 := h1.1 z
      replace h2 := h2.1 z
      obtain ⟨m, hm, hi⟩ := h1
      exact ⟨m, hm, hi, h2⟩
    · replace h1 := h1.2 z
      replace h2 := h2.2 z
      obtain ⟨P1, c1, h1⟩ := h1
      refine ⟨P1, c1, ?_⟩
      intro g42 a3_0 a3_1 x44 a3_2
      replace h1 := h1 g42 a3_0 a3_1 x44 a3_2
      replace h2 := h2 g42 a3_0 x44 a3_2
      obtain ⟨m, hm, hi⟩ := h1
      exact ⟨m, hm, hi, h2⟩
  · intro n g v66_2 e0 e1 e2 hI
    have h1 := h1_3 n g v66_2 e0 e1 e2 hI.1
    have h2 := h2_3 g v66_2 e0 e1 e2 hI.2
    clear h1E h2E hI h1_0 h2_0 h1_1 h2_1 h1_2 h2_2 h1_3 h2_3
    refine ⟨fun z => ?_, fun z => ?_⟩
    · replace h1 := h1.1 z
      replace h2 := h2.1 z
      intro b47 a3_0 a3_1
      replace h1 := h1 b47 a3_0 a3_1
      replace h2 := h2 b47 a3_0 a3_1
      obtain ⟨P1, c1, h1⟩ := h1
      refine ⟨P1, c1, ?_⟩
      intro g56 a3_0 a3_1
      replace h1 := h1 g56 a3_0 a3_1
      replace h2 := h2 g56 a3_0
      obtain ⟨P1, c1, h1⟩ := h1
      refine ⟨P1, c1, ?_⟩
      intro x63 a3_0 a3_1 g66 a3_2 a3_3
      replace h1 := h1 x63 a3_0 a3_1 g66 a3_2 a3_3
      replace h2 := h2 x63 a3_0 a3_1 g66 a3_2
      refine ⟨fun z => ?_, fun z => ?_⟩
      · replace h1 := h1.1 z
        replace h2 := h2.1 z
        exact ⟨h1, h2⟩
      · replace h1 := h1.2 z
        replace h2 := h2.2 z
        obtain ⟨P1, c1, h1⟩ := h1
        refine ⟨P1, c1, ?_⟩
        intro g74 a4_0 a4_1 x76 a4_2
        replace h1 := h1 g74 a4_0 a4_1 x76 a4_2
        replace h2 := h2 g74 a4_0 x76 a4_2
        obtain ⟨m, hm, hi⟩ := h1
        exact ⟨m, hm, hi, h2⟩
    · replace h1 := h1.2 z
      replace h2 := h2.2 z
      obtain ⟨P1, c1, h1⟩ := h1
      refine ⟨P1, c1, ?_⟩
      intro x83 a3_0 a3_1 g86 a3_2 a3_3
      replace h1 := h1 x83 a3_0 a3_1 g86 a3_2 a3_3
      replace h2 := h2 x83 a3_0 a3_1 g86 a3_2
      refine ⟨fun z => ?_, fun z => ?_⟩
      · replace h1 := h1.1 z
        replace h2 := h2.1 z
        exact ⟨h1, h2⟩
      · replace h1 := h1.2 z
        replace h2 := h2.2 z
        obtain ⟨P1, c1, h1⟩ := h1
        refine ⟨P1, c1, ?_⟩
        intro g94 a4_0 a4_1 x96 a4_2
        replace h1 := h1 g94 a4_0 a4_1 x96 a4_2
        replace h2 := h2 g94 a4_0 x96 a4_2
        obtain ⟨m, hm, hi⟩ := h1
        exact ⟨m, hm, hi, h2⟩
set_option maxRecDepth 100000 in
def p_1301_c1 (s0 : zF) (Q : Int → zF → Prop) : Prop :=
  ∃ (I2 : zF → Int → Prop) (I28 : zF → Int → Prop) (I167 : zF → Int → Int → Prop),
    (I2 s0 0) ∧
    (∀ (g : zF) (v2_2 : Int), zFr [(2, 3, 0), (2, 3, 1), (20, 21, 1), (41, 42, 1), (21, 22, 1000), (42, 43, 1000), (2, 3, 7)] s0 g → 0 ≤ v2_2 → v2_2 ≤ 1601 → I2 g v2_2 → (1600 < v2_2 → I28 g v2_2) ∧ (v2_2 ≤ 1600 → ∀ x7 : Int, (-1) ≤ x7 → x7 ≤ 26 → ∀ g10 : zF, zFr [] g g10 → (¬ x7 = 23 → I28 g10 v2_2) ∧ (x7 = 23 → ∀ g18 : zF, zFr [(2, 3, 7)] g10 g18 → ∀ x20 : Int, x20 = v2_2 + 1 → I2 g18 x20))) ∧
    (∀ (g : zF) (v28_2 : Int), zFr [(2, 3, 0), (2, 3, 1), (20, 21, 1), (41, 42, 1), (21, 22, 1000), (42, 43, 1000), (2, 3, 7)] s0 g → 0 ≤ v28_2 → v28_2 ≤ 1601 → I28 g v28_2 → ∀ x27 : Int, 0 ≤ x27 → x27 ≤ 1 → ∀ g30 : zF, zFr [] g g30 → (¬ x27 = 0 → ∀ g38 : zF, zFr [(2, 3, 7)] g30 g38 → ∃ P42 : Int → zF → Prop, p_1300_c2 g38 P42 ∧ ∀ x45 : Int, 0 ≤ x45 → x45 ≤ 1 → ∀ g48 : zF, zFr [(2, 3, 0), (2, 3, 1), (20, 21, 1), (41, 42, 1), (21, 22, 1000), (42, 43, 1000), (2, 3, 7)] g38 g48 → P42 x45 g48 → (¬ x45 = 0 → ∀ x56 : Int, 0 ≤ x56 → x56 ≤ 1 → ∀ g59 : zF, zFr [] g48 g59 → (¬ x56 = 0 → ∀ g67 : zF, zFr [(2, 3, 7)] g59 g67 → ∀ x69 : Int, 0 ≤ x69 → x69 < 2 → x69 = v28_2 % 2 → (¬ x69 = 1 → Q 1 g67) ∧ (x69 = 1 → ∀ b74 : Nat, (b74 : Int) = g67 (2) 8 → (b74 = 7 ∨ b74 = 28) → ∀ g83 : zF, zFr [(b74 + 13, b74 + 14, 1), (b74 + 14, b74 + 15, 1000)] g67 g83 → Q 1 g83)) ∧ (x56 = 0 → ∀ x90 : Int, 0 ≤ x90 → x90 ≤ 0 → ∀ g93 : zF, zFr [(2, 3, 0), (2, 3, 1)] g59 g93 → Q x90 g93)) ∧ (x45 = 0 → Q 0 g48)) ∧ (x27 = 0 → ∀ x100 : Int, (-1) ≤ x100 → x100 ≤ 26 → ∀ g103 : zF, zFr [] g30 g103 → (¬ x100 = 24 → ∃ P108 : Int → zF → Prop, p_1297_c1 g103 P108 ∧ ∀ x111 : Int, 0 ≤ x111 → x111 ≤ 1 → ∀ g114 : zF, zFr [(2, 3, 0), (2, 3, 1), (20, 21, 1), (41, 42, 1), (21, 22, 1000), (42, 43, 1000), (2, 3, 7)] g103 g114 → P108 x111 g114 → (¬ x111 = 0 → ∀ x122 : Int, 0 ≤ x122 → x122 ≤ 1 → ∀ g125 : zF, zFr [] g114 g125 → (¬ x122 = 0 → I167 g125 v28_2 (-14)) ∧ (x122 = 0 → ∀ x133 : Int, 0 ≤ x133 → x133 ≤ 1 → ∀ g136 : zF, zFr [] g125 g136 → (¬ x133 = 0 → I167 g136 v28_2 (-15)) ∧ (x133 = 0 → ∀ x144 : Int, 0 ≤ x144 → x144 ≤ 1 → ∀ g147 : zF, zFr [] g136 g147 → (¬ x144 = 0 → I167 g147 v28_2 (-16)) ∧ (x144 = 0 → I167 g147 v28_2 0)))) ∧ (x111 = 0 → Q 0 g114)) ∧ (x100 = 24 → ∀ g155 : zF, zFr [(2, 3, 7)] g103 g155 → ∀ b157 : Nat, (b157 : Int) = g155 (2) 8 → (b157 = 7 ∨ b157 = 28) → ∀ g166 : zF, zFr [(b157 + 13, b157 + 14, 1), (b157 + 14, b157 + 15, 1000)] g155 g166 → ∀ x168 : Int, 0 ≤ x168 → x168 < 2 → x168 = v28_2 % 2 → (¬ x168 = 1 → Q 1 g166) ∧ (x168 = 1 → ∀ g179 : zF, zFr [(b157 + 13, b157 + 14, 1), (b157 + 14, b157 + 15, 1000)] g166 g179 → Q 1 g179)))) ∧
    (∀ (g : zF) (v167_2 : Int) (s167_0 : Int), zFr [(2, 3, 0), (2, 3, 1), (20, 21, 1), (41, 42, 1), (21, 22, 1000), (42, 43, 1000), (2, 3, 7)] s0 g → 0 ≤ v167_2 → v167_2 ≤ 1601 → (-16) ≤ s167_0 → s167_0 ≤ 0 → I167 g v167_2 s167_0 → (¬ s167_0 = 0 → ∀ g187 : zF, zFr [(2, 3, 7)] g g187 → ∃ P191 : Int → zF → Prop, p_1297_c1 g187 P191 ∧ ∀ x194 : Int, 0 ≤ x194 → x194 ≤ 1 → ∀ g197 : zF, zFr [(2, 3, 0), (2, 3, 1), (20, 21, 1), (41, 42, 1), (21, 22, 1000), (42, 43, 1000), (2, 3, 7)] g187 g197 → P191 x194 g197 → (¬ x194 = 0 → ∀ b200 : Nat, (b200 : Int) = g197 (2) 8 → (b200 = 7 ∨ b200 = 28) → ∀ g209 : zF, zFr [(b200 + 13, b200 + 14, 1), (b200 + 14, b200 + 15, 1000)] g197 g209 → ∀ x211 : Int, 0 ≤ x211 → x211 < 2 → x211 = v167_2 % 2 → (¬ x211 = 1 → Q 1 g209) ∧ (x211 = 1 → ∀ g222 : zF, zFr [(b200 + 13, b200 + 14, 1), (b200 + 14, b200 + 15, 1000)] g209 g222 → Q 1 g222)) ∧ (x194 = 0 → Q 0 g197)) ∧ (s167_0 = 0 → ∀ x229 : Int, 0 ≤ x229 → x229 ≤ 0 → ∀ g232 : zF, zFr [(2, 3, 0), (2, 3, 1)] g g232 → Q x229 g232))
set_option maxRecDepth 100000 in
theorem cj_1301_c1 {s0 : zF} {Q1 Q2 : Int → zF → Prop} (h1 : b_1301_c1 s0 Q1) (h2 : p_1301_c1 s0 Q2) : b_1301_c1 s0 (fun v g => Q1 v g ∧ Q2 v g) := by
  obtain ⟨I2, I28, I167, h1E, h1_0, h1_1, h1_2⟩ := h1
  obtain ⟨J2, J28, J167, h2E, h2_0, h2_1, h2_2⟩ := h2
  refine ⟨fun n g y0 => I2 n g y0 ∧ J2 g y0, fun n g y0 => I28 n g y0 ∧ J28 g y0, fun n g y0 y1 => I167 n g y0 y1 ∧ J167 g y0 y1, ?_, ?_, ?_, ?_⟩
  · have h1 := h1E
    have h2 := h2E
    clear h1E h2E h1_0 h2_0 h1_1 h2_1 h1_2 h2_2
    obtain ⟨m, hi⟩ := h1
    exact ⟨m, hi, h2⟩
  · intro n g v2_2 e0 e1 e2 hI
    have h1 := h1_0 n g v2_2 e0 e1 e2 hI.1
    have h2 := h2_0 g v2_2 e0 e1 e2 hI.2
    clear h1E h2E hI h1_0 h2_0 h1_1 h2_1 h1_2 h2_2
    refine ⟨fun z => ?_, fun z => ?_⟩
    · replace h1 := h1.1 z
      replace h2 := h2.1 z
      obtain ⟨m, hm, hi⟩ := h1
      exact ⟨m, hm, hi, h2⟩
    · replace h1 := h1.2 z
      replace h2 := h2.2 z
      obtain ⟨P1, c1, h1⟩ := h1
      refine ⟨P1, c1, ?_⟩
      intro x7 a3_0 a3_1 g10 a3_2 a3_3
      replace h1 := h1 x7 a3_0 a3_1 g10 a3_2 a3_3
      replace h2 := h2 x7 a3_0 a3_1 g10 a3_2
      refine ⟨fun z => ?_, fun z => ?_⟩
      · replace h1 := h1.1 z
        replace h2 := h2.1 z
        obtain ⟨m, hm, hi⟩ := h1
        exact ⟨m, hm, hi, h2⟩
      · replace h1 := h1.2 z
        replace h2 := h2.2 z
        obtain ⟨P1, c1, h1⟩ := h1
        refine ⟨P1, c1, ?_⟩
        intro g18 a4_0 a4_1 x20 a4_2
        replace h1 := h1 g18 a4_0 a4_1 x20 a4_2
        replace h2 := h2 g18 a4_0 x20 a4_2
        obtain ⟨m, hm, hi⟩ := h1
        exact ⟨m, hm, hi, h2⟩
  · intro n g v28_2 e0 e1 e2 hI
    have h1 := h1_1 n g v28_2 e0 e1 e2 hI.1
    have h2 := h2_1 g v28_2 e0 e1 e2 hI.2
    clear h1E h2E hI h1_0 h2_0 h1_1 h2_1 h1_2 h2_2
    obtain ⟨P1, c1, h1⟩ := h1
    refine ⟨P1, c1, ?_⟩
    intro x27 a2_0 a2_1 g30 a2_2 a2_3
    replace h1 := h1 x27 a2_0 a2_1 g30 a2_2 a2_3
    replace h2 := h2 x27 a2_0 a2_1 g30 a2_2
    refine ⟨fun z => ?_, fun z => ?_⟩
    · replace h1 := h1.1 z
      replace h2 := h2.1 z
      obtain ⟨P1, c1, h1⟩ := h1
      refine ⟨P1, c1, ?_⟩
      intro g38 a3_0 a3_1
      replace h1 := h1 g38 a3_0 a3_1
      replace h2 := h2 g38 a3_0
      obtain ⟨P1, c1, h1⟩ := h1
      obtain ⟨P2, c2, h2⟩ := h2
      refine ⟨fun v g => P1 v g ∧ P2 v g, cj_1300_c2 c1 c2, ?_⟩
      intro x45 a3_0 a3_1 g48 a3_2 a3_3
      replace h1 := h1 x45 a3_0 a3_1 g48 a3_2 a3_3.1
      replace h2 := h2 x45 a3_0 a3_1 g48 a3_2 a3_3.2
      refine ⟨fun z => ?_, fun z => ?_⟩
      · replace h1 := h1.1 z
        replace h2 := h2.1 z
        obtain ⟨P1, c1, h1⟩ := h1
        refine ⟨P1, c1, ?_⟩
        intro x56 a4_0 a4_1 g59 a4_2 a4_3
        replace h1 := h1 x56 a4_0 a4_1 g59 a4_2 a4_3
        replace h2 := h2 x56 a4_0 a4_1 g59 a4_2
        refine ⟨fun z => ?_, fun z => ?_⟩
        · replace h1 := h1.1 z
          replace h2 := h2.1 z
          obtain ⟨P1, c1, h1⟩ := h1
          refine ⟨P1, c1, ?_⟩
          intro g67 a5_0 a5_1 x69 a5_2 a5_3 a5_4
          replace h1 := h1 g67 a5_0 a5_1 x69 a5_2 a5_3 a5_4
          replace h2 := h2 g67 a5_0 x69 a5_2 a5_3 a5_4
          refine ⟨fun z => ?_, fun z => ?_⟩
          · replace h1 := h1.1 z
            replace h2 := h2.1 z
            exact ⟨h1, h2⟩
          · replace h1 := h1.2 z
            replace h2 := h2.2 z
            intro b74 a6_0 a6_1
            replace h1 := h1 b74 a6_0 a6_1
            replace h2 := h2 b74 a6_0 a6_1
            obtain ⟨P1, c1, h1⟩ := h1
            refine ⟨P1, c1, ?_⟩
            intro g83 a6_0 a6_1
            replace h1 := h1 g83 a6_0 a6_1
            replace h2 := h2 g83 a6_0
            exact ⟨h1, h2⟩
        · replace h1 := h1.2 z
          replace h2 := h2.2 z
          obtain ⟨P1, c1, h1⟩ := h1
          refine ⟨P1, c1, ?_⟩
          intro x90 a5_0 a5_1 g93 a5_2 a5_3
          replace h1 := h1 x90 a5_0 a5_1 g93 a5_2 a5_3
          replace h2 := h2 x90 a5_0 a5_1 g93 a5_2
          exact ⟨h1, h2⟩
      · replace h1 := h1.2 z
        replace h2 := h2.2 z
        exact ⟨h1, h2⟩
    · replace h1 := h1.2 z
      replace h2 := h2.2 z
      obtain ⟨P1, c1, h1⟩ := h1
      refine ⟨P1, c1, ?_⟩
      intro x100 a3_0 a3_1 g103 a3_2 a3_3
      replace h1 := h1 x100 a3_0 a3_1 g103 a3_2 a3_3
      replace h2 := h2 x100 a3_0 a3_1 g103 a3_2
      refine ⟨fun z => ?_, fun z => ?_⟩
      · replace h1 := h1.1 z
        replace h2 := h2.1 z
        obtain ⟨P1, c1, h1⟩ := h1
        obtain ⟨P2, c2, h2⟩ := h2
        refine ⟨fun v g => P1 v g ∧ P2 v g, cj_1297_c1 c1 c2, ?_⟩
        intro x111 a4_0 a4_1 g114 a4_2 a4_3
        replace h1 := h1 x111 a4_0 a4_1 g114 a4_2 a4_3.1
        replace h2 := h2 x111 a4_0 a4_1 g114 a4_2 a4_3.2
        refine ⟨fun z => ?_, fun z => ?_⟩
        · replace h1 := h1.1 z
          replace h2 := h2.1 z
          obtain ⟨P1, c1, h1⟩ := h1
          refine ⟨P1, c1, ?_⟩
          intro x122 a5_0 a5_1 g125 a5_2 a5_3
          replace h1 := h1 x122 a5_0 a5_1 g125 a5_2 a5_3
          replace h2 := h2 x122 a5_0 a5_1 g125 a5_2
          refine ⟨fun z => ?_, fun z => ?_⟩
          · replace h1 := h1.1 z
            replace h2 := h2.1 z
            obtain ⟨m, hm, hi⟩ := h1
            exact ⟨m, hm, hi, h2⟩
          · replace h1 := h1.2 z
            replace h2 := h2.2 z
            obtain ⟨P1, c1, h1⟩ := h1
            refine ⟨P1, c1, ?_⟩
            intro x133 a6_0 a6_1 g136 a6_2 a6_3
            replace h1 := h1 x133 a6_0 a6_1 g136 a6_2 a6_3
            replace h2 := h2 x133 a6_0 a6_1 g136 a6_2
            refine ⟨fun z => ?_, fun z => ?_⟩
            · replace h1 := h1.1 z
              replace h2 := h2.1 z
              obtain ⟨m, hm, hi⟩ := h1
              exact ⟨m, hm, hi, h2⟩
            · replace h1 := h1.2 z
              replace h2 := h2.2 z
              obtain ⟨P1, c1, h1⟩ := h1
              refine ⟨P1, c1, ?_⟩
              intro x144 a7_0 a7_1 g147 a7_2 a7_3
              replace h1 := h1 x144 a7_0 a7_1 g147 a7_2 a7_3
              replace h2 := h2 x144 a7_0 a7_1 g147 a7_2
              refine ⟨fun z => ?_, fun z => ?_⟩
              · replace h1 := h1.1 z
                replace h2 := h2.1 z
                obtain ⟨m, hm, hi⟩ := h1
                exact ⟨m, hm, hi, h2⟩
              · replace h1 := h1.2 z
                replace h2 := h2.2 z
                obtain ⟨m, hm, hi⟩ := h1
                exact ⟨m, hm, hi, h2⟩
        · replace h1 := h1.2 z
          replace h2 := h2.2 z
          exact ⟨h1, h2⟩
      · replace h1 := h1.2 z
        replace h2 := h2.2 z
        obtain ⟨P1, c1, h1⟩ := h1
        refine ⟨P1, c1, ?_⟩
        intro g155 a4_0 a4_1 b157 a4_2 a4_3
        replace h1 := h1 g155 a4_0 a4_1 b157 a4_2 a4_3
        replace h2 := h2 g155 a4_0 b157 a4_2 a4_3
        obtain ⟨P1, c1, h1⟩ := h1
        refine ⟨P1, c1, ?_⟩
        intro g166 a4_0 a4_1 x168 a4_2 a4_3 a4_4
        replace h1 := h1 g166 a4_0 a4_1 x168 a4_2 a4_3 a4_4
        replace h2 := h2 g166 a4_0 x168 a4_2 a4_3 a4_4
        refine ⟨fun z => ?_, fun z => ?_⟩
        · replace h1 := h1.1 z
          replace h2 := h2.1 z
          exact ⟨h1, h2⟩
        · replace h1 := h1.2 z
          replace h2 := h2.2 z
          obtain ⟨P1, c1, h1⟩ := h1
          refine ⟨P1, c1, ?_⟩
          intro g179 a5_0 a5_1
          replace h1 := h1 g179 a5_0 a5_1
          replace h2 := h2 g179 a5_0
          exact ⟨h1, h2⟩
  · intro n g v167_2 s167_0 e0 e1 e2 e3 e4 hI
    have h1 := h1_2 n g v167_2 s167_0 e0 e1 e2 e3 e4 hI.1
    have h2 := h2_2 g v167_2 s167_0 e0 e1 e2 e3 e4 hI.2
    clear h1E h2E hI h1_0 h2_0 h1_1 h2_1 h1_2 h2_2
    refine ⟨fun z => ?_, fun z => ?_⟩
    · replace h1 := h1.1 z
      replace h2 := h2.1 z
      obtain ⟨P1, c1, h1⟩ := h1
      refine ⟨P1, c1, ?_⟩
      intro g187 a3_0 a3_1
      replace h1 := h1 g187 a3_0 a3_1
      replace h2 := h2 g187 a3_0
      obtain ⟨P1, c1, h1⟩ := h1
      obtain ⟨P2, c2, h2⟩ := h2
      refine ⟨fun v g => P1 v g ∧ P2 v g, cj_1297_c1 c1 c2, ?_⟩
      intro x194 a3_0 a3_1 g197 a3_2 a3_3
      replace h1 := h1 x194 a3_0 a3_1 g197 a3_2 a3_3.1
      replace h2 := h2 x194 a3_0 a3_1 g197 a3_2 a3_3.2
      refine ⟨fun z => ?_, fun z => ?_⟩
      · replace h1 := h1.1 z
        replace h2 := h2.1 z
        intro b200 a4_0 a4_1
        replace h1 := h1 b200 a4_0 a4_1
        replace h2 := h2 b200 a4_0 a4_1
        obtain ⟨P1, c1, h1⟩ := h1
        refine ⟨P1, c1, ?_⟩
        intro g209 a4_0 a4_1 x211 a4_2 a4_3 a4_4
        replace h1 := h1 g209 a4_0 a4_1 x211 a4_2 a4_3 a4_4
        replace h2 := h2 g209 a4_0 x211 a4_2 a4_3 a4_4
        refine ⟨fun z => ?_, fun z => ?_⟩
        · replace h1 := h1.1 z
          replace h2 := h2.1 z
          exact ⟨h1, h2⟩
        · replace h1 := h1.2 z
          replace h2 := h2.2 z
          obtain ⟨P1, c1, h1⟩ := h1
          refine ⟨P1, c1, ?_⟩
          intro g222 a5_0 a5_1
          replace h1 := h1 g222 a5_0 a5_1
          replace h2 := h2 g222 a5_0
          exact ⟨h1, h2⟩
      · replace h1 := h1.2 z
        replace h2 := h2.2 z
        exact ⟨h1, h2⟩
    · replace h1 := h1.2 z
      replace h2 := h2.2 z
      obtain ⟨P1, c1, h1⟩ := h1
      refine ⟨P1, c1, ?_⟩
      intro x229 a3_0 a3_1 g232 a3_2 a3_3
      replace h1 := h1 x229 a3_0 a3_1 g232 a3_2 a3_3
      replace h2 := h2 x229 a3_0 a3_1 g232 a3_2
      exact ⟨h1, h2⟩
set_option maxRecDepth 100000 in
def p_1300_c1 (s0 : zF) (Q : Int → zF → Prop) : Prop :=
  ∃ (I2 : zF → Int → Prop) (I11 : zF → Int → Int → Prop) (I44 : zF → Int → Int → Prop) (I66 : zF → Int → Prop),
    (I2 s0 0) ∧
    (∀ (g : zF) (v2_2 : Int), zFr [(2, 3, 0), (2, 3, 1), (20, 21, 1), (41, 42, 1), (21, 22, 1000), (42, 43, 1000), (2, 3, 7)] s0 g → 0 ≤ v2_2 → v2_2 ≤ 1601 → I2 g v2_2 → (1600 < v2_2 → Q 1 g) ∧ (v2_2 ≤ 1600 → I11 g v2_2 0)) ∧
    (∀ (g : zF) (v11_2 : Int) (v11_3 : Int), zFr [(2, 3, 0), (2, 3, 1), (20, 21, 1), (41, 42, 1), (21, 22, 1000), (42, 43, 1000), (2, 3, 7)] s0 g → 0 ≤ v11_2 → v11_2 ≤ 1600 → 0 ≤ v11_3 → v11_3 ≤ 1601 → I11 g v11_2 v11_3 → (1600 < v11_3 → I66 g v11_2) ∧ (v11_3 ≤ 1600 → ∃ P5 : Int → zF → Prop, p_1301_c1 g P5 ∧ ∀ x8 : Int, 0 ≤ x8 → x8 ≤ 1 → ∀ g11 : zF, zFr [(2, 3, 0), (2, 3, 1), (20, 21, 1), (41, 42, 1), (21, 22, 1000), (42, 43, 1000), (2, 3, 7)] g g11 → P5 x8 g11 → (¬ x8 = 0 → (0 < v11_3 → ∀ b15 : Nat, (b15 : Int) = g11 (2) 8 → (b15 = 7 ∨ b15 = 28) → ∀ g24 : zF, zFr [(b15 + 13, b15 + 14, 1), (b15 + 14, b15 + 15, 1000)] g11 g24 → I44 g24 v11_2 v11_3) ∧ (v11_3 ≤ 0 → I44 g11 v11_2 v11_3)) ∧ (x8 = 0 → Q 0 g11))) ∧
    (∀ (g : zF) (v44_2 : Int) (v44_3 : Int), zFr [(2, 3, 0), (2, 3, 1), (20, 21, 1), (41, 42, 1), (21, 22, 1000), (42, 43, 1000), (2, 3, 7)] s0 g → 0 ≤ v44_2 → v44_2 ≤ 1600 → 0 ≤ v44_3 → v44_3 ≤ 1600 → I44 g v44_2 v44_3 → ∀ x31 : Int, (-1) ≤ x31 → x31 ≤ 26 → ∀ g34 : zF, zFr [] g g34 → (¬ x31 = 22 → I66 g34 v44_2) ∧ (x31 = 22 → ∀ g42 : zF, zFr [(2, 3, 7)] g34 g42 → ∀ x44 : Int, x44 = v44_3 + 1 → I11 g42 v44_2 x44)) ∧
    (∀ (g : zF) (v66_2 : Int), zFr [(2, 3, 0), (2, 3, 1), (20, 21, 1), (41, 42, 1), (21, 22, 1000), (42, 43, 1000), (2, 3, 7)] s0 g → 0 ≤ v66_2 → v66_2 ≤ 1600 → I66 g v66_2 → (0 < v66_2 → ∀ b47 : Nat, (b47 : Int) = g (2) 8 → (b47 = 7 ∨ b47 = 28) → ∀ g56 : zF, zFr [(b47 + 13, b47 + 14, 1), (b47 + 14, b47 + 15, 1000)] g g56 → ∀ x63 : Int, (-1) ≤ x63 → x63 ≤ 26 → ∀ g66 : zF, zFr [] g56 g66 → (¬ x63 = 21 → Q 1 g66) ∧ (x63 = 21 → ∀ g74 : zF, zFr [(2, 3, 7)] g66 g74 → ∀ x76 : Int, x76 = v66_2 + 1 → I2 g74 x76)) ∧ (v66_2 ≤ 0 → ∀ x83 : Int, (-1) ≤ x83 → x83 ≤ 26 → ∀ g86 : zF, zFr [] g g86 → (¬ x83 = 21 → Q 1 g86) ∧ (x83 = 21 → ∀ g94 : zF, zFr [(2, 3, 7)] g86 g94 → ∀ x96 : Int, x96 = v66_2 + 1 → I2 g94 x96)))
set_option maxRecDepth 100000 in
theorem cj_1300_c1 {s0 : zF} {Q1 Q2 : Int → zF → Prop} (h1 : b_1300_c1 s0 Q1) (h2 : p_1300_c1 s0 Q2) : b_1300_c1 s0 (fun v g => Q1 v g ∧ Q2 v g) := by
  obtain ⟨I2, I11, I44, I66, h1E, h1_0, h1_1, h1_2, h1_3⟩ := h1
  obtain ⟨J2, J11, J44, J66, h2E, h2_0, h2_1, h2_2, h2_3⟩ := h2
  refine ⟨fun n g y0 => I2 n g y0 ∧ J2 g y0, fun n g y0 y1 => I11 n g y0 y1 ∧ J11 g y0 y1, fun n g y0 y1 => I44 n g y0 y1 ∧ J44 g y0 y1, fun n g y0 => I66 n g y0 ∧ J66 g y0, ?_, ?_, ?_, ?_, ?_⟩
  · have h1 := h1E
    have h2 := h2E
    clear h1E h2E h1_0 h2_0 h1_1 h2_1 h1_2 h2_2 h1_3 h2_3
    obtain ⟨m, hi⟩ := h1
    exact ⟨m, hi, h2⟩
  · intro n g v2_2 e0 e1 e2 hI
    have h1 := h1_0 n g v2_2 e0 e1 e2 hI.1
    have h2 := h2_0 g v2_2 e0 e1 e2 hI.2
    clear h1E h2E hI h1_0 h2_0 h1_1 h2_1 h1_2 h2_2 h1_3 h2_3
    refine ⟨fun z => ?_, fun z => ?_⟩
    · replace h1 := h1.1 z
      replace h2 := h2.1 z
      exact ⟨h1, h2⟩
    · replace h1 := h1.2 z
      replace h2 := h2.2 z
      obtain ⟨m, hm, hi⟩ := h1
      exact ⟨m, hm, hi, h2⟩
  · intro n g v11_2 v11_3 e0 e1 e2 e3 e4 hI
    have h1 := h1_1 n g v11_2 v11_3 e0 e1 e2 e3 e4 hI.1
    have h2 := h2_1 g v11_2 v11_3 e0 e1 e2 e3 e4 hI.2
    clear h1E h2E hI h1_0 h2_0 h1_1 h2_1 h1_2 h2_2 h1_3 h2_3
    refine ⟨fun z => ?_, fun z => ?_⟩
    · replace h1 := h1.1 z
      replace h2 := h2.1 z
      obtain ⟨m, hm, hi⟩ := h1
      exact ⟨m, hm, hi, h2⟩
    · replace h1 := h1.2 z
      replace h2 := h2.2 z
      obtain ⟨P1, c1, h1⟩ := h1
      obtain ⟨P2, c2, h2⟩ := h2
      refine ⟨fun v g => P1 v g ∧ P2 v g, cj_1301_c1 c1 c2, ?_⟩
      intro x8 a3_0 a3_1 g11 a3_2 a3_3
      replace h1 := h1 x8 a3_0 a3_1 g11 a3_2 a3_3.1
      replace h2 := h2 x8 a3_0 a3_1 g11 a3_2 a3_3.2
      refine ⟨fun z => ?_, fun z => ?_⟩
      · replace h1 := h1.1 z
        replace h2 := h2.1 z
        refine ⟨fun z => ?_, fun z => ?_⟩
        · replace h1 := h1.1 z
          replace h2 := h2.1 z
          intro b15 a5_0 a5_1
          replace h1 := h1 b15 a5_0 a5_1
          replace h2 := h2 b15 a5_0 a5_1
          obtain ⟨P1, c1, h1⟩ := h1
          refine ⟨P1, c1, ?_⟩
          intro g24 a5_0 a5_1
          replace h1 := h1 g24 a5_0 a5_1
          replace h2 := h2 g24 a5_0
          obtain ⟨m, hm, hi⟩ := h1
          exact ⟨m, hm, hi, h2⟩
        · replace h1 := h1.2 z
          replace h2 := h2.2 z
          obtain ⟨m, hm, hi⟩ := h1
          exact ⟨m, hm, hi, h2⟩
      · replace h1 := h1.2 z
        replace h2 := h2.2 z
        exact ⟨h1, h2⟩
  · intro n g v44_2 v44_3 e0 e1 e2 e3 e4 hI
    have h1 := h1_2 n g v44_2 v44_3 e0 e1 e2 e3 e4 hI.1
    have h2 := h2_2 g v44_2 v44_3 e0 e1 e2 e3 e4 hI.2
    clear h1E h2E hI h1_0 h2_0 h1_1 h2_1 h1_2 h2_2 h1_3 h2_3
    obtain ⟨P1, c1, h1⟩ := h1
    refine ⟨P1, c1, ?_⟩
    intro x31 a2_0 a2_1 g34 a2_2 a2_3
    replace h1 := h1 x31 a2_0 a2_1 g34 a2_2 a2_3
    replace h2 := h2 x31 a2_0 a2_1 g34 a2_2
    refine ⟨fun z => ?_, fun z => ?_⟩
    · replace h1 := h1.1 z
      replace h2 := h2.1 z
      obtain ⟨m, hm, hi⟩ := h1
      exact ⟨m, hm, hi, h2⟩
    · replace h1 := h1.2 z
      replace h2 := h2.2 z
      obtain ⟨P1, c1, h1⟩ := h1
      refine ⟨P1, c1, ?_⟩
      intro g42 a3_0 a3_1 x44 a3_2
      replace h1 := h1 g42 a3_0 a3_1 x44 a3_2
      replace h2 := h2 g42 a3_0 x44 a3_2
      obtain ⟨m, hm, hi⟩ := h1
      exact ⟨m, hm, hi, h2⟩
  · intro n g v66_2 e0 e1 e2 hI
    have h1 := h1_3 n g v66_2 e0 e1 e2 hI.1
    have h2 := h2_3 g v66_2 e0 e1 e2 hI.2
    clear h1E h2E hI h1_0 h2_0 h1_1 h2_1 h1_2 h2_2 h1_3 h2_3
    refine ⟨fun z => ?_, fun z => ?_⟩
    · replace h1 := h1.1 z
      replace h2 := h2.1 z
      intro b47 a3_0 a3_1
      replace h1 := h1 b47 a3_0 a3_1
      replace h2 := h2 b47 a3_0 a3_1
      obtain ⟨P1, c1, h1⟩ := h1
      refine ⟨P1, c1, ?_⟩
      intro g56 a3_0 a3_1
      replace h1 := h1 g56 a3_0 a3_1
      replace h2 := h2 g56 a3_0
      obtain ⟨P1, c1, h1⟩ := h1
      refine ⟨P1, c1, ?_⟩
      intro x63 a3_0 a3_1 g66 a3_2 a3_3
      replace h1 := h1 x63 a3_0 a3_1 g66 a3_2 a3_3
      replace h2 := h2 x63 a3_0 a3_1 g66 a3_2
      refine ⟨fun z => ?_, fun z => ?_⟩
      · replace h1 := h1.1 z
        replace h2 := h2.1 z
        exact ⟨h1, h2⟩
      · replace h1 := h1.2 z
        replace h2 := h2.2 z
        obtain ⟨P1, c1, h1⟩ := h1
        refine ⟨P1, c1, ?_⟩
        intro g74 a4_0 a4_1 x76 a4_2
        replace h1 := h1 g74 a4_0 a4_1 x76 a4_2
        replace h2 := h2 g74 a4_0 x76 a4_2
        obtain ⟨m, hm, hi⟩ := h1
        exact ⟨m, hm, hi, h2⟩
    · replace h1 := h1.2 z
      replace h2 := h2.2 z
      obtain ⟨P1, c1, h1⟩ := h1
      refine ⟨P1, c1, ?_⟩
      intro x83 a3_0 a3_1 g86 a3_2 a3_3
      replace h1 := h1 x83 a3_0 a3_1 g86 a3_2 a3_3
      replace h2 := h2 x83 a3_0 a3_1 g86 a3_2
      refine ⟨fun z => ?_, fun z => ?_⟩
      · replace h1 := h1.1 z
        replace h2 := h2.1 z
        exact ⟨h1, h2⟩
      · replace h1 := h1.2 z
        replace h2 := h2.2 z
        obtain ⟨P1, c1, h1⟩ := h1
        refine ⟨P1, c1, ?_⟩
        intro g94 a4_0 a4_1 x96 a4_2
        replace h1 := h1 g94 a4_0 a4_1 x96 a4_2
        replace h2 := h2 g94 a4_0 x96 a4_2
        obtain ⟨m, hm, hi⟩ := h1
        exact ⟨m, hm, hi, h2⟩
set_option maxRecDepth 100000 in
def p_1301_c0 (s0 : zF) (Q : Int → zF → Prop) : Prop :=
  ∃ (I2 : zF → Int → Prop) (I28 : zF → Int → Prop) (I167 : zF → Int → Int → Prop),
    (I2 s0 0) ∧
    (∀ (g : zF) (v2_2 : Int), zFr [(2, 3, 0), (2, 3, 1), (20, 21, 1), (41, 42, 1), (21, 22, 1000), (42, 43, 1000), (2, 3, 7)] s0 g → 0 ≤ v2_2 → v2_2 ≤ 1601 → I2 g v2_2 → (1600 < v2_2 → I28 g v2_2) ∧ (v2_2 ≤ 1600 → ∀ x7 : Int, (-1) ≤ x7 → x7 ≤ 26 → ∀ g10 : zF, zFr [] g g10 → (¬ x7 = 23 → I28 g10 v2_2) ∧ (x7 = 23 → ∀ g18 : zF, zFr [(2, 3, 7)] g10 g18 → ∀ x20 : Int, x20 = v2_2 + 1 → I2 g18 x20))) ∧
    (∀ (g : zF) (v28_2 : Int), zFr [(2, 3, 0), (2, 3, 1), (20, 21, 1), (41, 42, 1), (21, 22, 1000), (42, 43, 1000), (2, 3, 7)] s0 g → 0 ≤ v28_2 → v28_2 ≤ 1601 → I28 g v28_2 → ∀ x27 : Int, 0 ≤ x27 → x27 ≤ 1 → ∀ g30 : zF, zFr [] g g30 → (¬ x27 = 0 → ∀ g38 : zF, zFr [(2, 3, 7)] g30 g38 → ∃ P42 : Int → zF → Prop, p_1300_c1 g38 P42 ∧ ∀ x45 : Int, 0 ≤ x45 → x45 ≤ 1 → ∀ g48 : zF, zFr [(2, 3, 0), (2, 3, 1), (20, 21, 1), (41, 42, 1), (21, 22, 1000), (42, 43, 1000), (2, 3, 7)] g38 g48 → P42 x45 g48 → (¬ x45 = 0 → ∀ x56 : Int, 0 ≤ x56 → x56 ≤ 1 → ∀ g59 : zF, zFr [] g48 g59 → (¬ x56 = 0 → ∀ g67 : zF, zFr [(2, 3, 7)] g59 g67 → ∀ x69 : Int, 0 ≤ x69 → x69 < 2 → x69 = v28_2 % 2 → (¬ x69 = 1 → Q 1 g67) ∧ (x69 = 1 → ∀ b74 : Nat, (b74 : Int) = g67 (2) 8 → (b74 = 7 ∨ b74 = 28) → ∀ g83 : zF, zFr [(b74 + 13, b74 + 14, 1), (b74 + 14, b74 + 15, 1000)] g67 g83 → Q 1 g83)) ∧ (x56 = 0 → ∀ x90 : Int, 0 ≤ x90 → x90 ≤ 0 → ∀ g93 : zF, zFr [(2, 3, 0), (2, 3, 1)] g59 g93 → Q x90 g93)) ∧ (x45 = 0 → Q 0 g48)) ∧ (x27 = 0 → ∀ x100 : Int, (-1) ≤ x100 → x100 ≤ 26 → ∀ g103 : zF, zFr [] g30 g103 → (¬ x100 = 24 → ∃ P108 : Int → zF → Prop, p_1297_c0 g103 P108 ∧ ∀ x111 : Int, 0 ≤ x111 → x111 ≤ 1 → ∀ g114 : zF, zFr [(2, 3, 0), (2, 3, 1), (20, 21, 1), (41, 42, 1), (21, 22, 1000), (42, 43, 1000), (2, 3, 7)] g103 g114 → P108 x111 g114 → (¬ x111 = 0 → ∀ x122 : Int, 0 ≤ x122 → x122 ≤ 1 → ∀ g125 : zF, zFr [] g114 g125 → (¬ x122 = 0 → I167 g125 v28_2 (-14)) ∧ (x122 = 0 → ∀ x133 : Int, 0 ≤ x133 → x133 ≤ 1 → ∀ g136 : zF, zFr [] g125 g136 → (¬ x133 = 0 → I167 g136 v28_2 (-15)) ∧ (x133 = 0 → ∀ x144 : Int, 0 ≤ x144 → x144 ≤ 1 → ∀ g147 : zF, zFr [] g136 g147 → (¬ x144 = 0 → I167 g147 v28_2 (-16)) ∧ (x144 = 0 → I167 g147 v28_2 0)))) ∧ (x111 = 0 → Q 0 g114)) ∧ (x100 = 24 → ∀ g155 : zF, zFr [(2, 3, 7)] g103 g155 → ∀ b157 : Nat, (b157 : Int) = g155 (2) 8 → (b157 = 7 ∨ b157 = 28) → ∀ g166 : zF, zFr [(b157 + 13, b157 + 14, 1), (b157 + 14, b157 + 15, 1000)] g155 g166 → ∀ x168 : Int, 0 ≤ x168 → x168 < 2 → x168 = v28_2 % 2 → (¬ x168 = 1 → Q 1 g166) ∧ (x168 = 1 → ∀ g179 : zF, zFr [(b157 + 13, b157 + 14, 1), (b157 + 14, b157 + 15, 1000)] g166 g179 → Q 1 g179)))) ∧
    (∀ (g : zF) (v167_2 : Int) (s167_0 : Int), zFr [(2, 3, 0), (2, 3, 1), (20, 21, 1), (41, 42, 1), (21, 22, 1000), (42, 43, 1000), (2, 3, 7)] s0 g → 0 ≤ v167_2 → v167_2 ≤ 1601 → (-16) ≤ s167_0 → s167_0 ≤ 0 → I167 g v167_2 s167_0 → (¬ s167_0 = 0 → ∀ g187 : zF, zFr [(2, 3, 7)] g g187 → ∃ P191 : Int → zF → Prop, p_1297_c0 g187 P191 ∧ ∀ x194 : Int, 0 ≤ x194 → x194 ≤ 1 → ∀ g197 : zF, zFr [(2, 3, 0), (2, 3, 1), (20, 21, 1), (41, 42, 1), (21, 22, 1000), (42, 43, 1000), (2, 3, 7)] g187 g197 → P191 x194 g197 → (¬ x194 = 0 → ∀ b200 : Nat, (b200 : Int) = g197 (2) 8 → (b200 = 7 ∨ b200 = 28) → ∀ g209 : zF, zFr [(b200 + 13, b200 + 14, 1), (b200 + 14, b200 + 15, 1000)] g197 g209 → ∀ x211 : Int, 0 ≤ x211 → x211 < 2 → x211 = v167_2 % 2 → (¬ x211 = 1 → Q 1 g209) ∧ (x211 = 1 → ∀ g222 : zF, zFr [(b200 + 13, b200 + 14, 1), (b200 + 14, b200 + 15, 1000)] g209 g222 → Q 1 g222)) ∧ (x194 = 0 → Q 0 g197)) ∧ (s167_0 = 0 → ∀ x229 : Int, 0 ≤ x229 → x229 ≤ 0 → ∀ g232 : zF, zFr [(2, 3, 0), (2, 3, 1)] g g232 → Q x229 g232))
set_option maxRecDepth 100000 in
theorem cj_1301_c0 {s0 : zF} {Q1 Q2 : Int → zF → Prop} (h1 : b_1301_c0 s0 Q1) (h2 : p_1301_c0 s0 Q2) : b_1301_c0 s0 (fun v g => Q1 v g ∧ Q2 v g) := by
  obtain ⟨I2, I28, I167, h1E, h1_0, h1_1, h1_2⟩ := h1
  obtain ⟨J2, J28, J167, h2E, h2_0, h2_1, h2_2⟩ := h2
  refine ⟨fun n g y0 => I2 n g y0 ∧ J2 g y0, fun n g y0 => I28 n g y0 ∧ J28 g y0, fun n g y0 y1 => I167 n g y0 y1 ∧ J167 g y0 y1, ?_, ?_, ?_, ?_⟩
  · have h1 := h1E
    have h2 := h2E
    clear h1E h2E h1_0 h2_0 h1_1 h2_1 h1_2 h2_2
    obtain ⟨m, hi⟩ := h1
    exact ⟨m, hi, h2⟩
  · intro n g v2_2 e0 e1 e2 hI
    have h1 := h1_0 n g v2_2 e0 e1 e2 hI.1
    have h2 := h2_0 g v2_2 e0 e1 e2 hI.2
    clear h1E h2E hI h1_0 h2_0 h1_1 h2_1 h1_2 h2_2
    refine ⟨fun z => ?_, fun z => ?_⟩
    · replace h1 := h1.1 z
      replace h2 := h2.1 z
      obtain ⟨m, hm, hi⟩ := h1
      exact ⟨m, hm, hi, h2⟩
    · replace h1 := h1.2 z
      replace h2 := h2.2 z
      obtain ⟨P1, c1, h1⟩ := h1
      refine ⟨P1, c1, ?_⟩
      intro x7 a3_0 a3_1 g10 a3_2 a3_3
      replace h1 := h1 x7 a3_0 a3_1 g10 a3_2 a3_3
      replace h2 := h2 x7 a3_0 a3_1 g10 a3_2
      refine ⟨fun z => ?_, fun z => ?_⟩
      · replace h1 := h1.1 z
        replace h2 := h2.1 z
        obtain ⟨m, hm, hi⟩ := h1
        exact ⟨m, hm, hi, h2⟩
      · replace h1 := h1.2 z
        replace h2 := h2.2 z
        obtain ⟨P1, c1, h1⟩ := h1
        refine ⟨P1, c1, ?_⟩
        intro g18 a4_0 a4_1 x20 a4_2
        replace h1 := h1 g18 a4_0 a4_1 x20 a4_2
        replace h2 := h2 g18 a4_0 x20 a4_2
        obtain ⟨m, hm, hi⟩ := h1
        exact ⟨m, hm, hi, h2⟩
  · intro n g v28_2 e0 e1 e2 hI
    have h1 := h1_1 n g v28_2 e0 e1 e2 hI.1
    have h2 := h2_1 g v28_2 e0 e1 e2 hI.2
    clear h1E h2E hI h1_0 h2_0 h1_1 h2_1 h1_2 h2_2
    obtain ⟨P1, c1, h1⟩ := h1
    refine ⟨P1, c1, ?_⟩
    intro x27 a2_0 a2_1 g30 a2_2 a2_3
    replace h1 := h1 x27 a2_0 a2_1 g30 a2_2 a2_3
    replace h2 := h2 x27 a2_0 a2_1 g30 a2_2
    refine ⟨fun z => ?_, fun z => ?_⟩
    · replace h1 := h1.1 z
      replace h2 := h2.1 z
      obtain ⟨P1, c1, h1⟩ := h1
      refine ⟨P1, c1, ?_⟩
      intro g38 a3_0 a3_1
      replace h1 := h1 g38 a3_0 a3_1
      replace h2 := h2 g38 a3_0
      obtain ⟨P1, c1, h1⟩ := h1
      obtain ⟨P2, c2, h2⟩ := h2
      refine ⟨fun v g => P1 v g ∧ P2 v g, cj_1300_c1 c1 c2, ?_⟩
      intro x45 a3_0 a3_1 g48 a3_2 a3_3
      replace h1 := h1 x45 a3_0 a3_1 g48 a3_2 a3_3.1
      replace h2 := h2 x45 a3_0 a3_1 g48 a3_2 a3_3.2
      refine ⟨fun z => ?_, fun z => ?_⟩
      · replace h1 := h1.1 z
        replace h2 := h2.1 z
        obtain ⟨P1, c1, h1⟩ := h1
        refine ⟨P1, c1, ?_⟩
        intro x56 a4_0 a4_1 g59 a4_2 a4_3
        replace h1 := h1 x56 a4_0 a4_1 g59 a4_2 a4_3
        replace h2 := h2 x56 a4_0 a4_1 g59 a4_2
        refine ⟨fun z => ?_, fun z => ?_⟩
        · replace h1 := h1.1 z
          replace h2 := h2.1 z
          obtain ⟨P1, c1, h1⟩ := h1
          refine ⟨P1, c1, ?_⟩
          intro g67 a5_0 a5_1 x69 a5_2 a5_3 a5_4
          replace h1 := h1 g67 a5_0 a5_1 x69 a5_2 a5_3 a5_4
          replace h2 := h2 g67 a5_0 x69 a5_2 a5_3 a5_4
          refine ⟨fun z => ?_, fun z => ?_⟩
          · replace h1 := h1.1 z
            replace h2 := h2.1 z
            exact ⟨h1, h2⟩
          · replace h1 := h1.2 z
            replace h2 := h2.2 z
            intro b74 a6_0 a6_1
            replace h1 := h1 b74 a6_0 a6_1
            replace h2 := h2 b74 a6_0 a6_1
            obtain ⟨P1, c1, h1⟩ := h1
            refine ⟨P1, c1, ?_⟩
            intro g83 a6_0 a6_1
            replace h1 := h1 g83 a6_0 a6_1
            replace h2 := h2 g83 a6_0
            exact ⟨h1, h2⟩
        · replace h1 := h1.2 z
          replace h2 := h2.2 z
          obtain ⟨P1, c1, h1⟩ := h1
          refine ⟨P1, c1, ?_⟩
          intro x90 a5_0 a5_1 g93 a5_2 a5_3
          replace h1 := h1 x90 a5_0 a5_1 g93 a5_2 a5_3
          replace h2 := h2 x90 a5_0 a5_1 g93 a5_2
          exact ⟨h1, h2⟩
      · replace h1 := h1.2 z
        replace h2 := h2.2 z
        exact ⟨h1, h2⟩
    · replace h1 := h1.2 z
      replace h2 := h2.2 z
      obtain ⟨P1, c1, h1⟩ := h1
      refine ⟨P1, c1, ?_⟩
      intro x100 a3_0 a3_1 g103 a3_2 a3_3
      replace h1 := h1 x100 a3_0 a3_1 g103 a3_2 a3_3
      replace h2 := h2 x100 a3_0 a3_1 g103 a3_2
      refine ⟨fun z => ?_, fun z => ?_⟩
      · replace h1 := h1.1 z
        replace h2 := h2.1 z
        obtain ⟨P1, c1, h1⟩ := h1
        obtain ⟨P2, c2, h2⟩ := h2
        refine ⟨fun v g => P1 v g ∧ P2 v g, cj_1297_c0 c1 c2, ?_⟩
        intro x111 a4_0 a4_1 g114 a4_2 a4_3
        replace h1 := h1 x111 a4_0 a4_1 g114 a4_2 a4_3.1
        replace h2 := h2 x111 a4_0 a4_1 g114 a4_2 a4_3.2
        refine ⟨fun z => ?_, fun z => ?_⟩
        · replace h1 := h1.1 z
          replace h2 := h2.1 z
          obtain ⟨P1, c1, h1⟩ := h1
          refine ⟨P1, c1, ?_⟩
          intro x122 a5_0 a5_1 g125 a5_2 a5_3
          replace h1 := h1 x122 a5_0 a5_1 g125 a5_2 a5_3
          replace h2 := h2 x122 a5_0 a5_1 g125 a5_2
          refine ⟨fun z => ?_, fun z => ?_⟩
          · replace h1 := h1.1 z
            replace h2 := h2.1 z
            obtain ⟨m, hm, hi⟩ := h1
            exact ⟨m, hm, hi, h2⟩
          · replace h1 := h1.2 z
            replace h2 := h2.2 z
            obtain ⟨P1, c1, h1⟩ := h1
            refine ⟨P1, c1, ?_⟩
            intro x133 a6_0 a6_1 g136 a6_2 a6_3
            replace h1 := h1 x133 a6_0 a6_1 g136 a6_2 a6_3
            replace h2 := h2 x133 a6_0 a6_1 g136 a6_2
            refine ⟨fun z => ?_, fun z => ?_⟩
            · replace h1 := h1.1 z
              replace h2 := h2.1 z
              obtain ⟨m, hm, hi⟩ := h1
              exact ⟨m, hm, hi, h2⟩
            · replace h1 := h1.2 z
              replace h2 := h2.2 z
              obtain ⟨P1, c1, h1⟩ := h1
              refine ⟨P1, c1, ?_⟩
              intro x144 a7_0 a7_1 g147 a7_2 a7_3
              replace h1 := h1 x144 a7_0 a7_1 g147 a7_2 a7_3
              replace h2 := h2 x144 a7_0 a7_1 g147 a7_2
              refine ⟨fun z => ?_, fun z => ?_⟩
              · replace h1 := h1.1 z
                replace h2 := h2.1 z
                obtain ⟨m, hm, hi⟩ := h1
                exact ⟨m, hm, hi, h2⟩
              · replace h1 := h1.2 z
                replace h2 := h2.2 z
                obtain ⟨m, hm, hi⟩ := h1
                exact ⟨m, hm, hi, h2⟩
        · replace h1 := h1.2 z
          replace h2 := h2.2 z
          exact ⟨h1, h2⟩
      · replace h1 := h1.2 z
        replace h2 := h2.2 z
        obtain ⟨P1, c1, h1⟩ := h1
        refine ⟨P1, c1, ?_⟩
        intro g155 a4_0 a4_1 b157 a4_2 a4_3
        replace h1 := h1 g155 a4_0 a4_1 b157 a4_2 a4_3
        replace h2 := h2 g155 a4_0 b157 a4_2 a4_3
        obtain ⟨P1, c1, h1⟩ := h1
        refine ⟨P1, c1, ?_⟩
        intro g166 a4_0 a4_1 x168 a4_2 a4_3 a4_4
        replace h1 := h1 g166 a4_0 a4_1 x168 a4_2 a4_3 a4_4
        replace h2 := h2 g166 a4_0 x168 a4_2 a4_3 a4_4
        refine ⟨fun z => ?_, fun z => ?_⟩
        · replace h1 := h1.1 z
          replace h2 := h2.1 z
          exact ⟨h1, h2⟩
        · replace h1 := h1.2 z
          replace h2 := h2.2 z
          obtain ⟨P1, c1, h1⟩ := h1
          refine ⟨P1, c1, ?_⟩
          intro g179 a5_0 a5_1
          replace h1 := h1 g179 a5_0 a5_1
          replace h2 := h2 g179 a5_0
          exact ⟨h1, h2⟩
  · intro n g v167_2 s167_0 e0 e1 e2 e3 e4 hI
    have h1 := h1_2 n g v167_2 s167_0 e0 e1 e2 e3 e4 hI.1
    have h2 := h2_2 g v167_2 s167_0 e0 e1 e2 e3 e4 hI.2
    clear h1E h2E hI h1_0 h2_0 h1_1 h2_1 h1_2 h2_2
    refine ⟨fun z => ?_, fun z => ?_⟩
    · replace h1 := h1.1 z
      replace h2 := h2.1 z
      obtain ⟨P1, c1, h1⟩ := h1
      refine ⟨P1, c1, ?_⟩
      intro g187 a3_0 a3_1
      replace h1 := h1 g187 a3_0 a3_1
      replace h2 := h2 g187 a3_0
      obtain ⟨P1, c1, h1⟩ := h1
      obtain ⟨P2, c2, h2⟩ := h2
      refine ⟨fun v g => P1 v g ∧ P2 v g, cj_1297_c0 c1 c2, ?_⟩
      intro x194 a3_0 a3_1 g197 a3_2 a3_3
      replace h1 := h1 x194 a3_0 a3_1 g197 a3_2 a3_3.1
      replace h2 := h2 x194 a3_0 a3_1 g197 a3_2 a3_3.2
      refine ⟨fun z => ?_, fun z => ?_⟩
      · replace h1 := h1.1 z
        replace h2 := h2.1 z
        intro b200 a4_0 a4_1
        replace h1 := h1 b200 a4_0 a4_1
        replace h2 := h2 b200 a4_0 a4_1
        obtain ⟨P1, c1, h1⟩ := h1
        refine ⟨P1, c1, ?_⟩
        intro g209 a4_0 a4_1 x211 a4_2 a4_3 a4_4
        replace h1 := h1 g209 a4_0 a4_1 x211 a4_2 a4_3 a4_4
        replace h2 := h2 g209 a4_0 x211 a4_2 a4_3 a4_4
        refine ⟨fun z => ?_, fun z => ?_⟩
        · replace h1 := h1.1 z
          replace h2 := h2.1 z
          exact ⟨h1, h2⟩
        · replace h1 := h1.2 z
          replace h2 := h2.2 z
          obtain ⟨P1, c1, h1⟩ := h1
          refine ⟨P1, c1, ?_⟩
          intro g222 a5_0 a5_1
          replace h1 := h1 g222 a5_0 a5_1
          replace h2 := h2 g222 a5_0
          exact ⟨h1, h2⟩
      · replace h1 := h1.2 z
        replace h2 := h2.2 z
        exact ⟨h1, h2⟩
    · replace h1 := h1.2 z
      replace h2 := h2.2 z
      obtain ⟨P1, c1, h1⟩ := h1
      refine ⟨P1, c1, ?_⟩
      intro x229 a3_0 a3_1 g232 a3_2 a3_3
      replace h1 := h1 x229 a3_0 a3_1 g232 a3_2 a3_3
      replace h2 := h2 x229 a3_0 a3_1 g232 a3_2
      exact ⟨h1, h2⟩
set_option maxRecDepth 100000 in
def p_1300_c0 (s0 : zF) (Q : Int → zF → Prop) : Prop :=
  ∃ (I2 : zF → Int → Prop) (I11 : zF → Int → Int → Prop) (I44 : zF → Int → Int → Prop) (I66 : zF → Int → Prop),
    (I2 s0 0) ∧
    (∀ (g : zF) (v2_2 : Int), zFr [(2, 3, 0), (2, 3, 1), (20, 21, 1), (41, 42, 1), (21, 22, 1000), (42, 43, 1000), (2, 3, 7)] s0 g → 0 ≤ v2_2 → v2_2 ≤ 1601 → I2 g v2_2 → (1600 < v2_2 → Q 1 g) ∧ (v2_2 ≤ 1600 → I11 g v2_2 0)) ∧
    (∀ (g : zF) (v11_2 : Int) (v11_3 : Int), zFr [(2, 3, 0), (2, 3, 1), (20, 21, 1), (41, 42, 1), (21, 22, 1000), (42, 43, 1000), (2, 3, 7)] s0 g → 0 ≤ v11_2 → v11_2 ≤ 1600 → 0 ≤ v11_3 → v11_3 ≤ 1601 → I11 g v11_2 v11_3 → (1600 < v11_3 → I66 g v11_2) ∧ (v11_3 ≤ 1600 → ∃ P5 : Int → zF → Prop, p_1301_c0 g P5 ∧ ∀ x8 : Int, 0 ≤ x8 → x8 ≤ 1 → ∀ g11 : zF, zFr [(2, 3, 0), (2, 3, 1), (20, 21, 1), (41, 42, 1), (21, 22, 1000), (42, 43, 1000), (2, 3, 7)] g g11 → P5 x8 g11 → (¬ x8 = 0 → (0 < v11_3 → ∀ b15 : Nat, (b15 : Int) = g11 (2) 8 → (b15 = 7 ∨ b15 = 28) → ∀ g24 : zF, zFr [(b15 + 13, b15 + 14, 1), (b15 + 14, b15 + 15, 1000)] g11 g24 → I44 g24 v11_2 v11_3) ∧ (v11_3 ≤ 0 → I44 g11 v11_2 v11_3)) ∧ (x8 = 0 → Q 0 g11))) ∧
    (∀ (g : zF) (v44_2 : Int) (v44_3 : Int), zFr [(2, 3, 0), (2, 3, 1), (20, 21, 1), (41, 42, 1), (21, 22, 1000), (42, 43, 1000), (2, 3, 7)] s0 g → 0 ≤ v44_2 → v44_2 ≤ 1600 → 0 ≤ v44_3 → v44_3 ≤ 1600 → I44 g v44_2 v44_3 → ∀ x31 : Int, (-1) ≤ x31 → x31 ≤ 26 → ∀ g34 : zF, zFr [] g g34 → (¬ x31 = 22 → I66 g34 v44_2) ∧ (x31 = 22 → ∀ g42 : zF, zFr [(2, 3, 7)] g34 g42 → ∀ x44 : Int, x44 = v44_3 + 1 → I11 g42 v44_2 x44)) ∧
    (∀ (g : zF) (v66_2 : Int), zFr [(2, 3, 0), (2, 3, 1), (20, 21, 1), (41, 42, 1), (21, 22, 1000), (42, 43, 1000), (2, 3, 7)] s0 g → 0 ≤ v66_2 → v66_2 ≤ 1600 → I66 g v66_2 → (0 < v66_2 → ∀ b47 : Nat, (b47 : Int) = g (2) 8 → (b47 = 7 ∨ b47 = 28) → ∀ g56 : zF, zFr [(b47 + 13, b47 + 14, 1), (b47 + 14, b47 + 15, 1000)] g g56 → ∀ x63 : Int, (-1) ≤ x63 → x63 ≤ 26 → ∀ g66 : zF, zFr [] g56 g66 → (¬ x63 = 21 → Q 1 g66) ∧ (x63 = 21 → ∀ g74 : zF, zFr [(2, 3, 7)] g66 g74 → ∀ x76 : Int, x76 = v66_2 + 1 → I2 g74 x76)) ∧ (v66_2 ≤ 0 → ∀ x83 : Int, (-1) ≤ x83 → x83 ≤ 26 → ∀ g86 : zF, zFr [] g g86 → (¬ x83 = 21 → Q 1 g86) ∧ (x83 = 21 → ∀ g94 : zF, zFr [(2, 3, 7)] g86 g94 → ∀ x96 : Int, x96 = v66_2 + 1 → I2 g94 x96)))
set_option maxRecDepth 100000 in
theorem cj_1300_c0 {s0 : zF} {Q1 Q2 : Int → zF → Prop} (h1 : b_1300_c0 s0 Q1) (h2 : p_1300_c0 s0 Q2) : b_1300_c0 s0 (fun v g => Q1 v g ∧ Q2 v g) := by
  obtain ⟨I2, I11, I44, I66, h1E, h1_0, h1_1, h1_2, h1_3⟩ := h1
  obtain ⟨J2, J11, J44, J66, h2E, h2_0, h2_1, h2_2, h2_3⟩ := h2
  refine ⟨fun n g y0 => I2 n g y0 ∧ J2 g y0, fun n g y0 y1 => I11 n g y0 y1 ∧ J11 g y0 y1, fun n g y0 y1 => I44 n g y0 y1 ∧ J44 g y0 y1, fun n g y0 => I66 n g y0 ∧ J66 g y0, ?_, ?_, ?_, ?_, ?_⟩
  · have h1 := h1E
    have h2 := h2E
    clear h1E h2E h1_0 h2_0 h1_1 h2_1 h1_2 h2_2 h1_3 h2_3
    obtain ⟨m, hi⟩ := h1
    exact ⟨m, hi, h2⟩
  · intro n g v2_2 e0 e1 e2 hI
    have h1 := h1_0 n g v2_2 e0 e1 e2 hI.1
    have h2 := h2_0 g v2_2 e0 e1 e2 hI.2
    clear h1E h2E hI h1_0 h2_0 h1_1 h2_1 h1_2 h2_2 h1_3 h2_3
    refine ⟨fun z => ?_, fun z => ?_⟩
    · replace h1 := h1.1 z
      replace h2 := h2.1 z
      exact ⟨h1, h2⟩
    · replace h1 := h1.2 z
      replace h2 := h2.2 z
      obtain ⟨m, hm, hi⟩ := h1
      exact ⟨m, hm, hi, h2⟩
  · intro n g v11_2 v11_3 e0 e1 e2 e3 e4 hI
    have h1 := h1_1 n g v11_2 v11_3 e0 e1 e2 e3 e4 hI.1
    have h2 := h2_1 g v11_2 v11_3 e0 e1 e2 e3 e4 hI.2
    clear h1E h2E hI h1_0 h2_0 h1_1 h2_1 h1_2 h2_2 h1_3 h2_3
    refine ⟨fun z => ?_, fun z => ?_⟩
    · replace h1 := h1.1 z
      replace h2 := h2.1 z
      obtain ⟨m, hm, hi⟩ := h1
      exact ⟨m, hm, hi, h2⟩
    · replace h1 := h1.2 z
      replace h2 := h2.2 z
      obtain ⟨P1, c1, h1⟩ := h1
      obtain ⟨P2, c2, h2⟩ := h2
      refine ⟨fun v g => P1 v g ∧ P2 v g, cj_1301_c0 c1 c2, ?_⟩
      intro x8 a3_0 a3_1 g11 a3_2 a3_3
      replace h1 := h1 x8 a3_0 a3_1 g11 a3_2 a3_3.1
      replace h2 := h2 x8 a3_0 a3_1 g11 a3_2 a3_3.2
      refine ⟨fun z => ?_, fun z => ?_⟩
      · replace h1 := h1.1 z
        replace h2 := h2.1 z
        refine ⟨fun z => ?_, fun z => ?_⟩
        · replace h1 := h1.1 z
          replace h2 := h2.1 z
          intro b15 a5_0 a5_1
          replace h1 := h1 b15 a5_0 a5_1
          replace h2 := h2 b15 a5_0 a5_1
          obtain ⟨P1, c1, h1⟩ := h1
          refine ⟨P1, c1, ?_⟩
          intro g24 a5_0 a5_1
          replace h1 := h1 g24 a5_0 a5_1
          replace h2 := h2 g24 a5_0
          obtain ⟨m, hm, hi⟩ := h1
          exact ⟨m, hm, hi, h2⟩
        · replace h1 := h1.2 z
          replace h2 := h2.2 z
          obtain ⟨m, hm, hi⟩ := h1
          exact ⟨m, hm, hi, h2⟩
      · replace h1 := h1.2 z
        replace h2 := h2.2 z
        exact ⟨h1, h2⟩
  · intro n g v44_2 v44_3 e0 e1 e2 e3 e4 hI
    have h1 := h1_2 n g v44_2 v44_3 e0 e1 e2 e3 e4 hI.1
    have h2 := h2_2 g v44_2 v44_3 e0 e1 e2 e3 e4 hI.2
    clear h1E h2E hI h1_0 h2_0 h1_1 h2_1 h1_2 h2_2 h1_3 h2_3
    obtain ⟨P1, c1, h1⟩ := h1
    refine ⟨P1, c1, ?_⟩
    intro x31 a2_0 a2_1 g34 a2_2 a2_3
    replace h1 := h1 x31 a2_0 a2_1 g34 a2_2 a2_3
    replace h2 := h2 x31 a2_0 a2_1 g34 a2_2
    refine ⟨fun z => ?_, fun z => ?_⟩
    · replace h1 := h1.1 z
      replace h2 := h2.1 z
      obtain ⟨m, hm, hi⟩ := h1
      exact ⟨m, hm, hi, h2⟩
    · replace h1 := h1.2 z
      replace h2 := h2.2 z
      obtain ⟨P1, c1, h1⟩ := h1
      refine ⟨P1, c1, ?_⟩
      intro g42 a3_0 a3_1 x44 a3_2
      replace h1 := h1 g42 a3_0 a3_1 x44 a3_2
      replace h2 := h2 g42 a3_0 x44 a3_2
      obtain ⟨m, hm, hi⟩ := h1
      exact ⟨m, hm, hi, h2⟩
  · intro n g v66_2 e0 e1 e2 hI
    have h1 := h1_3 n g v66_2 e0 e1 e2 hI.1
    have h2 := h2_3 g v66_2 e0 e1 e2 hI.2
    clear h1E h2E hI h1_0 h2_0 h1_1 h2_1 h1_2 h2_2 h1_3 h2_3
    refine ⟨fun z => ?_, fun z => ?_⟩
    · replace h1 := h1.1 z
      replace h2 := h2.1 z
      intro b47 a3_0 a3_1
      replace h1 := h1 b47 a3_0 a3_1
      replace h2 := h2 b47 a3_0 a3_1
      obtain ⟨P1, c1, h1⟩ := h1
      refine ⟨P1, c1, ?_⟩
      intro g56 a3_0 a3_1
      replace h1 := h1 g56 a3_0 a3_1
      replace h2 := h2 g56 a3_0
      obtain ⟨P1, c1, h1⟩ := h1
      refine ⟨P1, c1, ?_⟩
      intro x63 a3_0 a3_1 g66 a3_2 a3_3
      replace h1 := h1 x63 a3_0 a3_1 g66 a3_2 a3_3
      replace h2 := h2 x63 a3_0 a3_1 g66 a3_2
      refine ⟨fun z => ?_, fun z => ?_⟩
      · replace h1 := h1.1 z
        replace h2 := h2.1 z
        exact ⟨h1, h2⟩
      · replace h1 := h1.2 z
        replace h2 := h2.2 z
        obtain ⟨P1, c1, h1⟩ := h1
        refine ⟨P1, c1, ?_⟩
        intro g74 a4_0 a4_1 x76 a4_2
        replace h1 := h1 g74 a4_0 a4_1 x76 a4_2
        replace h2 := h2 g74 a4_0 x76 a4_2
        obtain ⟨m, hm, hi⟩ := h1
        exact ⟨m, hm, hi, h2⟩
    · replace h1 := h1.2 z
      replace h2 := h2.2 z
      obtain ⟨P1, c1, h1⟩ := h1
      refine ⟨P1, c1, ?_⟩
      intro x83 a3_0 a3_1 g86 a3_2 a3_3
      replace h1 := h1 x83 a3_0 a3_1 g86 a3_2 a3_3
      replace h2 := h2 x83 a3_0 a3_1 g86 a3_2
      refine ⟨fun z => ?_, fun z => ?_⟩
      · replace h1 := h1.1 z
        replace h2 := h2.1 z
        exact ⟨h1, h2⟩
      · replace h1 := h1.2 z
        replace h2 := h2.2 z
        obtain ⟨P1, c1, h1⟩ := h1
        refine ⟨P1, c1, ?_⟩
        intro g94 a4_0 a4_1 x96 a4_2
        replace h1 := h1 g94 a4_0 a4_1 x96 a4_2
        replace h2 := h2 g94 a4_0 x96 a4_2
        obtain ⟨m, hm, hi⟩ := h1
        exact ⟨m, hm, hi, h2⟩
set_option maxRecDepth 100000 in
def p_1296 (s0 : zF) (a0 : Int) (Q : Int → zF → Prop) : Prop :=
  ∀ b1 : Nat, (b1 : Int) = s0 (2) 8 → (b1 = 7 ∨ b1 = 28) → ∀ x5 : Int, x5 = s0 (b1 + 13) 0 → 0 ≤ x5 → x5 ≤ 8 → (x5 < 8 → ∀ g15 : zF, zFr [(2, 3, 7)] s0 g15 → ∀ g23 : zF, zFr [(b1 + 15, b1 + 17, 1000)] g15 g23 → ∃ P27 : Int → zF → Prop, p_1297_c0 g23 P27 ∧ ∀ x30 : Int, 0 ≤ x30 → x30 ≤ 1 → ∀ g33 : zF, zFr [(2, 3, 0), (2, 3, 1), (20, 21, 1), (41, 42, 1), (21, 22, 1000), (42, 43, 1000), (2, 3, 7)] g23 g33 → P27 x30 g33 → (¬ x30 = 0 → ∃ P38 : Int → zF → Prop, p_1291 g33 20 P38 ∧ ∀ x41 : Int, 0 ≤ x41 → x41 ≤ 1 → ∀ g44 : zF, zFr [(2, 3, 0), (2, 3, 1), (2, 3, 7)] g33 g44 → P38 x41 g44 → (¬ x41 = 0 → ∀ g53 : zF, zFr [(b1 + 17, b1 + 18, 1000)] g44 g53 → ∃ P57 : Int → zF → Prop, p_1300_c0 g53 P57 ∧ ∀ x60 : Int, 0 ≤ x60 → x60 ≤ 1 → ∀ g63 : zF, zFr [(2, 3, 0), (2, 3, 1), (20, 21, 1), (41, 42, 1), (21, 22, 1000), (42, 43, 1000), (2, 3, 7)] g53 g63 → P57 x60 g63 → (¬ x60 = 0 → ∀ g72 : zF, zFr [(b1 + 13, b1 + 14, 0), (b1 + 18, b1 + 19, 1000)] g63 g72 → Q 1 g72) ∧ (x60 = 0 → Q 0 g63)) ∧ (x41 = 0 → Q 0 g44)) ∧ (x30 = 0 → Q 0 g33)) ∧ (8 ≤ x5 → ∀ x79 : Int, 0 ≤ x79 → x79 ≤ 0 → ∀ g82 : zF, zFr [(2, 3, 0), (2, 3, 1)] s0 g82 → Q x79 g82)
set_option maxRecDepth 100000 in
theorem cj_1296 {s0 : zF} {a0 : Int} {Q1 Q2 : Int → zF → Prop} (h1 : b_1296 s0 a0 Q1) (h2 : p_1296 s0 a0 Q2) : b_1296 s0 a0 (fun v g => Q1 v g ∧ Q2 v g) := by
  unfold b_1296 at h1 ⊢
  unfold p_1296 at h2
  intro b1 a1_0 a1_1 x5 a1_2 a1_3 a1_4
  replace h1 := h1 b1 a1_0 a1_1 x5 a1_2 a1_3 a1_4
  replace h2 := h2 b1 a1_0 a1_1 x5 a1_2 a1_3 a1_4
  refine ⟨fun z => ?_, fun z => ?_⟩
  · replace h1 := h1.1 z
    replace h2 := h2.1 z
    obtain ⟨P1, c1, h1⟩ := h1
    refine ⟨P1, c1, ?_⟩
    intro g15 a2_0 a2_1
    replace h1 := h1 g15 a2_0 a2_1
    replace h2 := h2 g15 a2_0
    obtain ⟨P1, c1, h1⟩ := h1
    refine ⟨P1, c1, ?_⟩
    intro g23 a2_0 a2_1
    replace h1 := h1 g23 a2_0 a2_1
    replace h2 := h2 g23 a2_0
    obtain ⟨P1, c1, h1⟩ := h1
    obtain ⟨P2, c2, h2⟩ := h2
    refine ⟨fun v g => P1 v g ∧ P2 v g, cj_1297_c0 c1 c2, ?_⟩
    intro x30 a2_0 a2_1 g33 a2_2 a2_3
    replace h1 := h1 x30 a2_0 a2_1 g33 a2_2 a2_3.1
    replace h2 := h2 x30 a2_0 a2_1 g33 a2_2 a2_3.2
    refine ⟨fun z => ?_, fun z => ?_⟩
    · replace h1 := h1.1 z
      replace h2 := h2.1 z
      obtain ⟨P1, c1, h1⟩ := h1
      obtain ⟨P2, c2, h2⟩ := h2
      refine ⟨fun v g => P1 v g ∧ P2 v g, cj_1291 c1 c2, ?_⟩
      intro x41 a3_0 a3_1 g44 a3_2 a3_3
      replace h1 := h1 x41 a3_0 a3_1 g44 a3_2 a3_3.1
      replace h2 := h2 x41 a3_0 a3_1 g44 a3_2 a3_3.2
      refine ⟨fun z => ?_, fun z => ?_⟩
      · replace h1 := h1.1 z
        replace h2 := h2.1 z
        obtain ⟨P1, c1, h1⟩ := h1
        refine ⟨P1, c1, ?_⟩
        intro g53 a4_0 a4_1
        replace h1 := h1 g53 a4_0 a4_1
        replace h2 := h2 g53 a4_0
        obtain ⟨P1, c1, h1⟩ := h1
        obtain ⟨P2, c2, h2⟩ := h2
        refine ⟨fun v g => P1 v g ∧ P2 v g, cj_1300_c0 c1 c2, ?_⟩
        intro x60 a4_0 a4_1 g63 a4_2 a4_3
        replace h1 := h1 x60 a4_0 a4_1 g63 a4_2 a4_3.1
        replace h2 := h2 x60 a4_0 a4_1 g63 a4_2 a4_3.2
        refine ⟨fun z => ?_, fun z => ?_⟩
        · replace h1 := h1.1 z
          replace h2 := h2.1 z
          obtain ⟨P1, c1, h1⟩ := h1
          refine ⟨P1, c1, ?_⟩
          intro g72 a5_0 a5_1
          replace h1 := h1 g72 a5_0 a5_1
          replace h2 := h2 g72 a5_0
          exact ⟨h1, h2⟩
        · replace h1 := h1.2 z
          replace h2 := h2.2 z
          exact ⟨h1, h2⟩
      · replace h1 := h1.2 z
        replace h2 := h2.2 z
        exact ⟨h1, h2⟩
    · replace h1 := h1.2 z
      replace h2 := h2.2 z
      exact ⟨h1, h2⟩
  · replace h1 := h1.2 z
    replace h2 := h2.2 z
    obtain ⟨P1, c1, h1⟩ := h1
    refine ⟨P1, c1, ?_⟩
    intro x79 a2_0 a2_1 g82 a2_2 a2_3
    replace h1 := h1 x79 a2_0 a2_1 g82 a2_2 a2_3
    replace h2 := h2 x79 a2_0 a2_1 g82 a2_2
    exact ⟨h1, h2⟩
set_option maxRecDepth 100000 in
def p_1281 (s0 : zF) (a1 : Int) (Q : Int → zF → Prop) : Prop :=
  ∃ (I30 : zF → Int → Prop),
    (∀ b348 : Nat, (b348 : Int) = s0 (2) 8 → (b348 = 7 ∨ b348 = 28) → ∀ g357 : zF, zFr [(b348, b348 + 1, 0), (b348 + 13, b348 + 14, 0), (b348, b348 + 1, 1), (b348 + 13, b348 + 14, 1), (b348 + 12, b348 + 13, 1000), (b348, b348 + 1, 2)] s0 g357 → ∀ g363 : zF, g363 = zup g357 (2) 0 0 → ∀ g368 : zF, g368 = zup g363 (2) 1 (-1) → ∀ g373 : zF, g373 = zup g368 (2) 7 0 → ∀ g379 : zF, zFr [(4, 7, 1000), (2, 3, 6)] g373 g379 → I30 g379 0) ∧
    (∀ (g : zF) (v30_3 : Int), zFr [(2, 3, 0), (7, 8, 0), (20, 21, 0), (28, 29, 0), (41, 42, 0), (2, 3, 1), (7, 8, 1), (20, 21, 1), (28, 29, 1), (41, 42, 1), (2, 3, 10), (4, 7, 1000), (8, 20, 1000), (21, 26, 1000), (29, 41, 1000), (42, 47, 1000), (7, 8, 2), (28, 29, 2), (2, 3, 6), (2, 3, 7), (2, 3, 9)] s0 g → 0 ≤ v30_3 → v30_3 ≤ 90 → I30 g v30_3 → ∀ x1 : Int, x1 = g (2) 7 → 0 ≤ x1 → x1 ≤ 1600 → ∀ x8 : Int, x8 = g (4) x1.toNat → 0 ≤ x8 → x8 ≤ 5 → (¬ x8 = 0 → (¬ v30_3 = 90 → ∀ x16 : Int, (-1) ≤ x16 → x16 ≤ 26 → ∀ g19 : zF, zFr [] g g19 → (x16 = 7 → ∃ P24 : Int → zF → Prop, p_1288 g19 P24 ∧ ∀ x27 : Int, 0 ≤ x27 → x27 ≤ 1 → ∀ g30 : zF, zFr [(2, 3, 0), (2, 3, 1), (7, 8, 1), (28, 29, 1), (2, 3, 10), (8, 14, 1000), (29, 35, 1000), (2, 3, 7), (2, 3, 9)] g19 g30 → P24 x27 g30 → (¬ x27 = 0 → ∀ x38 : Int, 0 ≤ x38 → x38 ≤ 1 → ∀ g41 : zF, zFr [] g30 g41 → (¬ x38 = 0 → ∀ g49 : zF, zFr [(2, 3, 7)] g41 g49 → ∀ x51 : Int, x51 = v30_3 + 1 → I30 g49 x51) ∧ (x38 = 0 → ∀ x58 : Int, 0 ≤ x58 → x58 ≤ 0 → ∀ g61 : zF, zFr [(2, 3, 0), (2, 3, 1)] g41 g61 → Q x58 g61)) ∧ (x27 = 0 → Q 0 g30)) ∧ (¬ x16 = 7 → (x16 = 8 → ∀ x69 : Int, 0 ≤ x69 → x69 ≤ 0 → ∀ g72 : zF, zFr [(2, 3, 0), (2, 3, 1)] g19 g72 → Q 0 g72) ∧ (¬ x16 = 8 → (x16 = 9 → ∀ x80 : Int, 0 ≤ x80 → x80 ≤ 0 → ∀ g83 : zF, zFr [(2, 3, 0), (2, 3, 1)] g19 g83 → Q 0 g83) ∧ (¬ x16 = 9 → (x16 = 10 → ∀ x91 : Int, 0 ≤ x91 → x91 ≤ 0 → ∀ g94 : zF, zFr [(2, 3, 0), (2, 3, 1)] g19 g94 → Q 0 g94) ∧ (¬ x16 = 10 → (x16 = 11 → ∀ x102 : Int, 0 ≤ x102 → x102 ≤ 0 → ∀ g105 : zF, zFr [(2, 3, 0), (2, 3, 1)] g19 g105 → Q 0 g105) ∧ (¬ x16 = 11 → (x16 = 12 → ∃ P110 : Int → zF → Prop, p_1294 g19 P110 ∧ ∀ x113 : Int, 0 ≤ x113 → x113 ≤ 1 → ∀ g116 : zF, zFr [(2, 3, 0), (2, 3, 1), (2, 3, 10), (19, 20, 1000), (40, 41, 1000), (2, 3, 7)] g19 g116 → P110 x113 g116 → (¬ x113 = 0 → ∀ x124 : Int, 0 ≤ x124 → x124 ≤ 1 → ∀ g127 : zF, zFr [] g116 g127 → (¬ x124 = 0 → ∀ g135 : zF, zFr [(2, 3, 7)] g127 g135 → ∀ x137 : Int, x137 = v30_3 + 1 → I30 g135 x137) ∧ (x124 = 0 → ∀ x144 : Int, 0 ≤ x144 → x144 ≤ 0 → ∀ g147 : zF, zFr [(2, 3, 0), (2, 3, 1)] g127 g147 → Q x144 g147)) ∧ (x113 = 0 → Q 0 g116)) ∧ (¬ x16 = 12 → (x16 = 13 → ∀ x155 : Int, 0 ≤ x155 → x155 ≤ 0 → ∀ g158 : zF, zFr [(2, 3, 0), (2, 3, 1)] g19 g158 → Q 0 g158) ∧ (¬ x16 = 13 → (x16 = 14 → ∃ P163 : Int → zF → Prop, p_1295 g19 P163 ∧ ∀ x166 : Int, 0 ≤ x166 → x166 ≤ 1 → ∀ g169 : zF, zFr [(2, 3, 0), (2, 3, 1), (2, 3, 10), (14, 19, 1000), (35, 40, 1000), (7, 8, 2), (28, 29, 2), (2, 3, 7), (2, 3, 9)] g19 g169 → P163 x166 g169 → (¬ x166 = 0 → ∀ x177 : Int, 0 ≤ x177 → x177 ≤ 1 → ∀ g180 : zF, zFr [] g169 g180 → (¬ x177 = 0 → ∀ g188 : zF, zFr [(2, 3, 7)] g180 g188 → ∀ x190 : Int, x190 = v30_3 + 1 → I30 g188 x190) ∧ (x177 = 0 → ∀ x197 : Int, 0 ≤ x197 → x197 ≤ 0 → ∀ g200 : zF, zFr [(2, 3, 0), (2, 3, 1)] g180 g200 → Q x197 g200)) ∧ (x166 = 0 → Q 0 g169)) ∧ (¬ x16 = 14 → (x16 = 15 → ∀ x208 : Int, 0 ≤ x208 → x208 ≤ 0 → ∀ g211 : zF, zFr [(2, 3, 0), (2, 3, 1)] g19 g211 → Q 0 g211) ∧ (¬ x16 = 15 → (x16 = 16 → ∀ x219 : Int, 0 ≤ x219 → x219 ≤ 0 → ∀ g222 : zF, zFr [(2, 3, 0), (2, 3, 1)] g19 g222 → Q 0 g222) ∧ (¬ x16 = 16 → (x16 = 17 → ∀ x230 : Int, 0 ≤ x230 → x230 ≤ 0 → ∀ g233 : zF, zFr [(2, 3, 0), (2, 3, 1)] g19 g233 → Q 0 g233) ∧ (¬ x16 = 17 → (x16 = 18 → ∃ P238 : Int → zF → Prop, p_1296 g19 0 P238 ∧ ∀ x241 : Int, 0 ≤ x241 → x241 ≤ 1 → ∀ g244 : zF, zFr [(2, 3, 0), (20, 21, 0), (41, 42, 0), (2, 3, 1), (20, 21, 1), (41, 42, 1), (21, 26, 1000), (42, 47, 1000), (2, 3, 7)] g19 g244 → P238 x241 g244 → (¬ x241 = 0 → ∀ x252 : Int, 0 ≤ x252 → x252 ≤ 1 → ∀ g255 : zF, zFr [] g244 g255 → (¬ x252 = 0 → ∀ g263 : zF, zFr [(2, 3, 7)] g255 g263 → ∀ x265 : Int, x265 = v30_3 + 1 → I30 g263 x265) ∧ (x252 = 0 → ∀ x272 : Int, 0 ≤ x272 → x272 ≤ 0 → ∀ g275 : zF, zFr [(2, 3, 0), (2, 3, 1)] g255 g275 → Q x272 g275)) ∧ (x241 = 0 → Q 0 g244)) ∧ (¬ x16 = 18 → (x16 = 19 → ∃ P280 : Int → zF → Prop, p_1296 g19 1 P280 ∧ ∀ x283 : Int, 0 ≤ x283 → x283 ≤ 1 → ∀ g286 : zF, zFr [(2, 3, 0), (20, 21, 0), (41, 42, 0), (2, 3, 1), (20, 21, 1), (41, 42, 1), (21, 26, 1000), (42, 47, 1000), (2, 3, 7)] g19 g286 → P280 x283 g286 → (¬ x283 = 0 → ∀ x294 : Int, 0 ≤ x294 → x294 ≤ 1 → ∀ g297 : zF, zFr [] g286 g297 → (¬ x294 = 0 → ∀ g305 : zF, zFr [(2, 3, 7)] g297 g305 → ∀ x307 : Int, x307 = v30_3 + 1 → I30 g305 x307) ∧ (x294 = 0 → ∀ x314 : Int, 0 ≤ x314 → x314 ≤ 0 → ∀ g317 : zF, zFr [(2, 3, 0), (2, 3, 1)] g297 g317 → Q x314 g317)) ∧ (x283 = 0 → Q 0 g286)) ∧ (¬ x16 = 19 → ∀ x324 : Int, 0 ≤ x324 → x324 ≤ 0 → ∀ g327 : zF, zFr [(2, 3, 0), (2, 3, 1)] g19 g327 → Q 0 g327)))))))))))))) ∧ (v30_3 = 90 → ∀ x334 : Int, 0 ≤ x334 → x334 ≤ 0 → ∀ g337 : zF, zFr [(2, 3, 0), (2, 3, 1)] g g337 → Q x334 g337)) ∧ (x8 = 0 → ∀ b339 : Nat, (b339 : Int) = g (2) 8 → (b339 = 7 ∨ b339 = 28) → ∀ g347 : zF, g347 = zup g (b339) 0 v30_3 → Q 1 g347))
set_option maxRecDepth 100000 in
theorem cj_1281 {s0 : zF} {a1 : Int} {Q1 Q2 : Int → zF → Prop} (h1 : b_1281 s0 a1 Q1) (h2 : p_1281 s0 a1 Q2) : b_1281 s0 a1 (fun v g => Q1 v g ∧ Q2 v g) := by
  obtain ⟨I30, h1E, h1_0⟩ := h1
  obtain ⟨J30, h2E, h2_0⟩ := h2
  refine ⟨fun n g y0 => I30 n g y0 ∧ J30 g y0, ?_, ?_⟩
  · have h1 := h1E
    have h2 := h2E
    clear h1E h2E h1_0 h2_0
    intro b348 a2_0 a2_1
    replace h1 := h1 b348 a2_0 a2_1
    replace h2 := h2 b348 a2_0 a2_1
    obtain ⟨P1, c1, h1⟩ := h1
    refine ⟨P1, c1, ?_⟩
    intro g357 a2_0 a2_1 g363 a2_2 g368 a2_3 g373 a2_4
    replace h1 := h1 g357 a2_0 a2_1 g363 a2_2 g368 a2_3 g373 a2_4
    replace h2 := h2 g357 a2_0 g363 a2_2 g368 a2_3 g373 a2_4
    obtain ⟨P1, c1, h1⟩ := h1
    refine ⟨P1, c1, ?_⟩
    intro g379 a2_0 a2_1
    replace h1 := h1 g379 a2_0 a2_1
    replace h2 := h2 g379 a2_0
    obtain ⟨m, hi⟩ := h1
    exact ⟨m, hi, h2⟩
  · intro n g v30_3 e0 e1 e2 hI
    have h1 := h1_0 n g v30_3 e0 e1 e2 hI.1
    have h2 := h2_0 g v30_3 e0 e1 e2 hI.2
    clear h1E h2E hI h1_0 h2_0
    intro x1 a2_0 a2_1 a2_2 x8 a2_3 a2_4 a2_5
    replace h1 := h1 x1 a2_0 a2_1 a2_2 x8 a2_3 a2_4 a2_5
    replace h2 := h2 x1 a2_0 a2_1 a2_2 x8 a2_3 a2_4 a2_5
    refine ⟨fun z => ?_, fun z => ?_⟩
    · replace h1 := h1.1 z
      replace h2 := h2.1 z
      refine ⟨fun z => ?_, fun z => ?_⟩
      · replace h1 := h1.1 z
        replace h2 := h2.1 z
        obtain ⟨P1, c1, h1⟩ := h1
        refine ⟨P1, c1, ?_⟩
        intro x16 a4_0 a4_1 g19 a4_2 a4_3
        replace h1 := h1 x16 a4_0 a4_1 g19 a4_2 a4_3
        replace h2 := h2 x16 a4_0 a4_1 g19 a4_2
        refine ⟨fun z => ?_, fun z => ?_⟩
        · replace h1 := h1.1 z
          replace h2 := h2.1 z
          obtain ⟨P1, c1, h1⟩ := h1
          obtain ⟨P2, c2, h2⟩ := h2
          refine ⟨fun v g => P1 v g ∧ P2 v g, cj_1288 c1 c2, ?_⟩
          intro x27 a5_0 a5_1 g30 a5_2 a5_3
          replace h1 := h1 x27 a5_0 a5_1 g30 a5_2 a5_3.1
          replace h2 := h2 x27 a5_0 a5_1 g30 a5_2 a5_3.2
          refine ⟨fun z => ?_, fun z => ?_⟩
          · replace h1 := h1.1 z
            replace h2 := h2.1 z
            obtain ⟨P1, c1, h1⟩ := h1
            refine ⟨P1, c1, ?_⟩
            intro x38 a6_0 a6_1 g41 a6_2 a6_3
            replace h1 := h1 x38 a6_0 a6_1 g41 a6_2 a6_3
            replace h2 := h2 x38 a6_0 a6_1 g41 a6_2
            refine ⟨fun z => ?_, fun z => ?_⟩
            · replace h1 := h1.1 z
              replace h2 := h2.1 z
              obtain ⟨P1, c1, h1⟩ := h1
              refine ⟨P1, c1, ?_⟩
              intro g49 a7_0 a7_1 x51 a7_2
              replace h1 := h1 g49 a7_0 a7_1 x51 a7_2
              replace h2 := h2 g49 a7_0 x51 a7_2
              obtain ⟨m, hm, hi⟩ := h1
              exact ⟨m, hm, hi, h2⟩
            · replace h1 := h1.2 z
              replace h2 := h2.2 z
              obtain ⟨P1, c1, h1⟩ := h1
              refine ⟨P1, c1, ?_⟩
              intro x58 a7_0 a7_1 g61 a7_2 a7_3
              replace h1 := h1 x58 a7_0 a7_1 g61 a7_2 a7_3
              replace h2 := h2 x58 a7_0 a7_1 g61 a7_2
              exact ⟨h1, h2⟩
          · replace h1 := h1.2 z
            replace h2 := h2.2 z
            exact ⟨h1, h2⟩
        · replace h1 := h1.2 z
          replace h2 := h2.2 z
          refine ⟨fun z => ?_, fun z => ?_⟩
          · replace h1 := h1.1 z
            replace h2 := h2.1 z
            obtain ⟨P1, c1, h1⟩ := h1
            refine ⟨P1, c1, ?_⟩
            intro x69 a6_0 a6_1 g72 a6_2 a6_3
            replace h1 := h1 x69 a6_0 a6_1 g72 a6_2 a6_3
            replace h2 := h2 x69 a6_0 a6_1 g72 a6_2
            exact ⟨h1, h2⟩
          · replace h1 := h1.2 z
            replace h2 := h2.2 z
            refine ⟨fun z => ?_, fun z => ?_⟩
            · replace h1 := h1.1 z
              replace h2 := h2.1 z
              obtain ⟨P1, c1, h1⟩ := h1
              refine ⟨P1, c1, ?_⟩
              intro x80 a7_0 a7_1 g83 a7_2 a7_3
              replace h1 := h1 x80 a7_0 a7_1 g83 a7_2 a7_3
              replace h2 := h2 x80 a7_0 a7_1 g83 a7_2
              exact ⟨h1, h2⟩
            · replace h1 := h1.2 z
              replace h2 := h2.2 z
              refine ⟨fun z => ?_, fun z => ?_⟩
              · replace h1 := h1.1 z
                replace h2 := h2.1 z
                obtain ⟨P1, c1, h1⟩ := h1
                refine ⟨P1, c1, ?_⟩
                intro x91 a8_0 a8_1 g94 a8_2 a8_3
                replace h1 := h1 x91 a8_0 a8_1 g94 a8_2 a8_3
                replace h2 := h2 x91 a8_0 a8_1 g94 a8_2
                exact ⟨h1, h2⟩
              · replace h1 := h1.2 z
                replace h2 := h2.2 z
                refine ⟨fun z => ?_, fun z => ?_⟩
                · replace h1 := h1.1 z
                  replace h2 := h2.1 z
                  obtain ⟨P1, c1, h1⟩ := h1
                  refine ⟨P1, c1, ?_⟩
                  intro x102 a9_0 a9_1 g105 a9_2 a9_3
                  replace h1 := h1 x102 a9_0 a9_1 g105 a9_2 a9_3
                  replace h2 := h2 x102 a9_0 a9_1 g105 a9_2
                  exact ⟨h1, h2⟩
                · replace h1 := h1.2 z
                  replace h2 := h2.2 z
                  refine ⟨fun z => ?_, fun z => ?_⟩
                  · replace h1 := h1.1 z
                    replace h2 := h2.1 z
                    obtain ⟨P1, c1, h1⟩ := h1
                    obtain ⟨P2, c2, h2⟩ := h2
                    refine ⟨fun v g => P1 v g ∧ P2 v g, cj_1294 c1 c2, ?_⟩
                    intro x113 a10_0 a10_1 g116 a10_2 a10_3
                    replace h1 := h1 x113 a10_0 a10_1 g116 a10_2 a10_3.1
                    replace h2 := h2 x113 a10_0 a10_1 g116 a10_2 a10_3.2
                    refine ⟨fun z => ?_, fun z => ?_⟩
                    · replace h1 := h1.1 z
                      replace h2 := h2.1 z
                      obtain ⟨P1, c1, h1⟩ := h1
                      refine ⟨P1, c1, ?_⟩
                      intro x124 a11_0 a11_1 g127 a11_2 a11_3
                      replace h1 := h1 x124 a11_0 a11_1 g127 a11_2 a11_3
                      replace h2 := h2 x124 a11_0 a11_1 g127 a11_2
                      refine ⟨fun z => ?_, fun z => ?_⟩
                      · replace h1 := h1.1 z
                        replace h2 := h2.1 z
                        obtain ⟨P1, c1, h1⟩ := h1
                        refine ⟨P1, c1, ?_⟩
                        intro g135 a12_0 a12_1 x137 a12_2
                        replace h1 := h1 g135 a12_0 a12_1 x137 a12_2
                        replace h2 := h2 g135 a12_0 x137 a12_2
                        obtain ⟨m, hm, hi⟩ := h1
                        exact ⟨m, hm, hi, h2⟩
                      · replace h1 := h1.2 z
                        replace h2 := h2.2 z
                        obtain ⟨P1, c1, h1⟩ := h1
                        refine ⟨P1, c1, ?_⟩
                        intro x144 a12_0 a12_1 g147 a12_2 a12_3
                        replace h1 := h1 x144 a12_0 a12_1 g147 a12_2 a12_3
                        replace h2 := h2 x144 a12_0 a12_1 g147 a12_2
                        exact ⟨h1, h2⟩
                    · replace h1 := h1.2 z
                      replace h2 := h2.2 z
                      exact ⟨h1, h2⟩
                  · replace h1 := h1.2 z
                    replace h2 := h2.2 z
                    refine ⟨fun z => ?_, fun z => ?_⟩
                    · replace h1 := h1.1 z
                      replace h2 := h2.1 z
                      obtain ⟨P1, c1, h1⟩ := h1
                      refine ⟨P1, c1, ?_⟩
                      intro x155 a11_0 a11_1 g158 a11_2 a11_3
                      replace h1 := h1 x155 a11_0 a11_1 g158 a11_2 a11_3
                      replace h2 := h2 x155 a11_0 a11_1 g158 a11_2
                      exact ⟨h1, h2⟩
                    · replace h1 := h1.2 z
                      replace h2 := h2.2 z
                      refine ⟨fun z => ?_, fun z => ?_⟩
                      · replace h1 := h1.1 z
                        replace h2 := h2.1 z
                        obtain ⟨P1, c1, h1⟩ := h1
                        obtain ⟨P2, c2, h2⟩ := h2
                        refine ⟨fun v g => P1 v g ∧ P2 v g, cj_1295 c1 c2, ?_⟩
                        intro x166 a12_0 a12_1 g169 a12_2 a12_3
                        replace h1 := h1 x166 a12_0 a12_1 g169 a12_2 a12_3.1
                        replace h2 := h2 x166 a12_0 a12_1 g169 a12_2 a12_3.2
                        refine ⟨fun z => ?_, fun z => ?_⟩
                        · replace h1 := h1.1 z
                          replace h2 := h2.1 z
                          obtain ⟨P1, c1, h1⟩ := h1
                          refine ⟨P1, c1, ?_⟩
                          intro x177 a13_0 a13_1 g180 a13_2 a13_3
                          replace h1 := h1 x177 a13_0 a13_1 g180 a13_2 a13_3
                          replace h2 := h2 x177 a13_0 a13_1 g180 a13_2
                          refine ⟨fun z => ?_, fun z => ?_⟩
                          · replace h1 := h1.1 z
                            replace h2 := h2.1 z
                            obtain ⟨P1, c1, h1⟩ := h1
                            refine ⟨P1, c1, ?_⟩
                            intro g188 a14_0 a14_1 x190 a14_2
                            replace h1 := h1 g188 a14_0 a14_1 x190 a14_2
                            replace h2 := h2 g188 a14_0 x190 a14_2
                            obtain ⟨m, hm, hi⟩ := h1
                            exact ⟨m, hm, hi, h2⟩
                          · replace h1 := h1.2 z
                            replace h2 := h2.2 z
                            obtain ⟨P1, c1, h1⟩ := h1
                            refine ⟨P1, c1, ?_⟩
                            intro x197 a14_0 a14_1 g200 a14_2 a14_3
                            replace h1 := h1 x197 a14_0 a14_1 g200 a14_2 a14_3
                            replace h2 := h2 x197 a14_0 a14_1 g200 a14_2
                            exact ⟨h1, h2⟩
                        · replace h1 := h1.2 z
                          replace h2 := h2.2 z
                          exact ⟨h1, h2⟩
                      · replace h1 := h1.2 z
                        replace h2 := h2.2 z
                        refine ⟨fun z => ?_, fun z => ?_⟩
                        · replace h1 := h1.1 z
                          replace h2 := h2.1 z
                          obtain ⟨P1, c1, h1⟩ := h1
                          refine ⟨P1, c1, ?_⟩
                          intro x208 a13_0 a13_1 g211 a13_2 a13_3
                          replace h1 := h1 x208 a13_0 a13_1 g211 a13_2 a13_3
                          replace h2 := h2 x208 a13_0 a13_1 g211 a13_2
                          exact ⟨h1, h2⟩
                        · replace h1 := h1.2 z
                          replace h2 := h2.2 z
                          refine ⟨fun z => ?_, fun z => ?_⟩
                          · replace h1 := h1.1 z
                            replace h2 := h2.1 z
                            obtain ⟨P1, c1, h1⟩ := h1
                            refine ⟨P1, c1, ?_⟩
                            intro x219 a14_0 a14_1 g222 a14_2 a14_3
                            replace h1 := h1 x219 a14_0 a14_1 g222 a14_2 a14_3
                            replace h2 := h2 x219 a14_0 a14_1 g222 a14_2
                            exact ⟨h1, h2⟩
                          · replace h1 := h1.2 z
                            replace h2 := h2.2 z
                            refine ⟨fun z => ?_, fun z => ?_⟩
                            · replace h1 := h1.1 z
                              replace h2 := h2.1 z
                              obtain ⟨P1, c1, h1⟩ := h1
                              refine ⟨P1, c1, ?_⟩
                              intro x230 a15_0 a15_1 g233 a15_2 a15_3
                              replace h1 := h1 x230 a15_0 a15_1 g233 a15_2 a15_3
                              replace h2 := h2 x230 a15_0 a15_1 g233 a15_2
                              exact ⟨h1, h2⟩
                            · replace h1 := h1.2 z
                              replace h2 := h2.2 z
                              refine ⟨fun z => ?_, fun z => ?_⟩
                              · replace h1 := h1.1 z
                                replace h2 := h2.1 z
                                obtain ⟨P1, c1, h1⟩ := h1
                                obtain ⟨P2, c2, h2⟩ := h2
                                refine ⟨fun v g => P1 v g ∧ P2 v g, cj_1296 c1 c2, ?_⟩
                                intro x241 a16_0 a16_1 g244 a16_2 a16_3
                                replace h1 := h1 x241 a16_0 a16_1 g244 a16_2 a16_3.1
                                replace h2 := h2 x241 a16_0 a16_1 g244 a16_2 a16_3.2
                                refine ⟨fun z => ?_, fun z => ?_⟩
                                · replace h1 := h1.1 z
                                  replace h2 := h2.1 z
                                  obtain ⟨P1, c1, h1⟩ := h1
                                  refine ⟨P1, c1, ?_⟩
                                  intro x252 a17_0 a17_1 g255 a17_2 a17_3
                                  replace h1 := h1 x252 a17_0 a17_1 g255 a17_2 a17_3
                                  replace h2 := h2 x252 a17_0 a17_1 g255 a17_2
                                  refine ⟨fun z => ?_, fun z => ?_⟩
                                  · replace h1 := h1.1 z
                                    replace h2 := h2.1 z
                                    obtain ⟨P1, c1, h1⟩ := h1
                                    refine ⟨P1, c1, ?_⟩
                                    intro g263 a18_0 a18_1 x265 a18_2
                                    replace h1 := h1 g263 a18_0 a18_1 x265 a18_2
                                    replace h2 := h2 g263 a18_0 x265 a18_2
                                    obtain ⟨m, hm, hi⟩ := h1
                                    exact ⟨m, hm, hi, h2⟩
                                  · replace h1 := h1.2 z
                                    replace h2 := h2.2 z
                                    obtain ⟨P1, c1, h1⟩ := h1
                                    refine ⟨P1, c1, ?_⟩
                                    intro x272 a18_0 a18_1 g275 a18_2 a18_3
                                    replace h1 := h1 x272 a18_0 a18_1 g275 a18_2 a18_3
                                    replace h2 := h2 x272 a18_0 a18_1 g275 a18_2
                                    exact ⟨h1, h2⟩
                                · replace h1 := h1.2 z
                                  replace h2 := h2.2 z
                                  exact ⟨h1, h2⟩
                              · replace h1 := h1.2 z
                                replace h2 := h2.2 z
                                refine ⟨fun z => ?_, fun z => ?_⟩
                                · replace h1 := h1.1 z
                                  replace h2 := h2.1 z
                                  obtain ⟨P1, c1, h1⟩ := h1
                                  obtain ⟨P2, c2, h2⟩ := h2
                                  refine ⟨fun v g => P1 v g ∧ P2 v g, cj_1296 c1 c2, ?_⟩
                                  intro x283 a17_0 a17_1 g286 a17_2 a17_3
                                  replace h1 := h1 x283 a17_0 a17_1 g286 a17_2 a17_3.1
                                  replace h2 := h2 x283 a17_0 a17_1 g286 a17_2 a17_3.2
                                  refine ⟨fun z => ?_, fun z => ?_⟩
                                  · replace h1 := h1.1 z
                                    replace h2 := h2.1 z
                                    obtain ⟨P1, c1, h1⟩ := h1
                                    refine ⟨P1, c1, ?_⟩
                                    intro x294 a18_0 a18_1 g297 a18_2 a18_3
                                    replace h1 := h1 x294 a18_0 a18_1 g297 a18_2 a18_3
                                    replace h2 := h2 x294 a18_0 a18_1 g297 a18_2
                                    refine ⟨fun z => ?_, fun z => ?_⟩
                                    · replace h1 := h1.1 z
                                      replace h2 := h2.1 z
                                      obtain ⟨P1, c1, h1⟩ := h1
                                      refine ⟨P1, c1, ?_⟩
                                      intro g305 a19_0 a19_1 x307 a19_2
                                      replace h1 := h1 g305 a19_0 a19_1 x307 a19_2
                                      replace h2 := h2 g305 a19_0 x307 a19_2
                                      obtain ⟨m, hm, hi⟩ := h1
                                      exact ⟨m, hm, hi, h2⟩
                                    · replace h1 := h1.2 z
                                      replace h2 := h2.2 z
                                      obtain ⟨P1, c1, h1⟩ := h1
                                      refine ⟨P1, c1, ?_⟩
                                      intro x314 a19_0 a19_1 g317 a19_2 a19_3
                                      replace h1 := h1 x314 a19_0 a19_1 g317 a19_2 a19_3
                                      replace h2 := h2 x314 a19_0 a19_1 g317 a19_2
                                      exact ⟨h1, h2⟩
                                  · replace h1 := h1.2 z
                                    replace h2 := h2.2 z
                                    exact ⟨h1, h2⟩
                                · replace h1 := h1.2 z
                                  replace h2 := h2.2 z
                                  obtain ⟨P1, c1, h1⟩ := h1
                                  refine ⟨P1, c1, ?_⟩
                                  intro x324 a17_0 a17_1 g327 a17_2 a17_3
                                  replace h1 := h1 x324 a17_0 a17_1 g327 a17_2 a17_3
                                  replace h2 := h2 x324 a17_0 a17_1 g327 a17_2
                                  exact ⟨h1, h2⟩
      · replace h1 := h1.2 z
        replace h2 := h2.2 z
        obtain ⟨P1, c1, h1⟩ := h1
        refine ⟨P1, c1, ?_⟩
        intro x334 a4_0 a4_1 g337 a4_2 a4_3
        replace h1 := h1 x334 a4_0 a4_1 g337 a4_2 a4_3
        replace h2 := h2 x334 a4_0 a4_1 g337 a4_2
        exact ⟨h1, h2⟩
    · replace h1 := h1.2 z
      replace h2 := h2.2 z
      intro b339 a3_0 a3_1 g347 a3_2
      replace h1 := h1 b339 a3_0 a3_1 g347 a3_2
      replace h2 := h2 b339 a3_0 a3_1 g347 a3_2
      exact ⟨h1, h2⟩
