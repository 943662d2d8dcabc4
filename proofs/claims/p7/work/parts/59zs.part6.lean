/-! partial conditions of the reference (wip/safe/vcp.py) -/
set_option maxRecDepth 100000 in
def p_2309 (s0 : zF) (Q : Int → zF → Prop) : Prop :=
  ∃ (I76 : zF → Int → Prop) (I114 : zF → Int → Prop) (I143 : zF → Int → Prop),
    (∀ x99 : Int, x99 = s0 (386) 1 → 0 ≤ x99 → x99 ≤ 1600 → ∀ g107 : zF, g107 = zup s0 (386) 2 x99 → ∀ g112 : zF, g112 = zup g107 (386) 1 0 → ∀ g117 : zF, g117 = zup g112 (386) 5 0 → ∀ g122 : zF, g122 = zup g117 (386) 8 0 → ∀ g127 : zF, g127 = zup g122 (386) 9 (-1) → ∀ x128 : Int, x128 = g127 (386) 12 → 0 ≤ x128 → x128 ≤ 1 → ∀ x132 : Int, x132 = 1 - x128 → ∀ g138 : zF, g138 = zup g127 (386) 35 x132 → ∀ g143 : zF, g143 = zup g138 (388) x132.toNat 0 → ∀ g149 : zF, g149 = zup g143 (396) x132.toNat 0 → ∀ g155 : zF, g155 = zup g149 (402) x132.toNat 0 → ∀ x157 : Int, x157 = 11 * x132 → I76 g155 x157) ∧
    (∀ (g : zF) (v76_1 : Int), zFr [(386, 387, 1), (386, 387, 10), (388, 416, 1000), (418, 432, 1000), (386, 387, 11), (386, 387, 12), (386, 387, 2), (386, 387, 3), (386, 387, 34), (386, 387, 35), (386, 387, 4), (386, 387, 41), (386, 387, 42), (386, 387, 44), (386, 387, 45), (386, 387, 5), (386, 387, 6), (386, 387, 65), (386, 387, 68), (386, 387, 7), (386, 387, 8), (386, 387, 9)] s0 g → 0 ≤ v76_1 → v76_1 ≤ 22 → I76 g v76_1 → ∀ x1 : Int, x1 = g (386) 35 → 0 ≤ x1 → x1 ≤ 1 → ∀ x5 : Int, x5 = 11 * x1 → ∀ x7 : Int, x7 = x5 + 11 → (v76_1 < x7 → ∀ g14 : zF, g14 = zup g (395) v76_1.toNat 0 → ∀ x15 : Int, x15 = v76_1 + 1 → I76 g14 x15) ∧ (x7 ≤ v76_1 → ∀ g21 : zF, g21 = zup g (386) 34 0 → ∃ P24 : zF → Prop, p_2310 g21 P24 ∧ ∀ g27 : zF, zFr [(386, 387, 3), (386, 387, 4), (386, 387, 5), (386, 387, 6), (386, 387, 7), (386, 387, 8), (386, 387, 9)] g21 g27 → P24 g27 → I114 g27 0)) ∧
    (∀ (g : zF) (v114_1 : Int), zFr [(386, 387, 1), (386, 387, 10), (388, 416, 1000), (418, 432, 1000), (386, 387, 11), (386, 387, 12), (386, 387, 2), (386, 387, 3), (386, 387, 34), (386, 387, 35), (386, 387, 4), (386, 387, 41), (386, 387, 42), (386, 387, 44), (386, 387, 45), (386, 387, 5), (386, 387, 6), (386, 387, 65), (386, 387, 68), (386, 387, 7), (386, 387, 8), (386, 387, 9)] s0 g → I114 g v114_1 → ∀ x29 : Int, x29 = g (386) 8 → 0 ≤ x29 → x29 ≤ 5 → (¬ x29 = 0 → I143 g v114_1) ∧ (x29 = 0 → ∀ x34 : Int, x34 = g (386) 3 → 0 ≤ x34 → x34 ≤ 3 → (¬ x34 = 0 → ∃ P41 : zF → Prop, p_2314 g P41 ∧ ∀ g44 : zF, zFr [(388, 415, 1000), (386, 387, 3), (386, 387, 34), (386, 387, 4), (386, 387, 41), (386, 387, 42), (386, 387, 44), (386, 387, 45), (386, 387, 5), (386, 387, 6), (386, 387, 7), (386, 387, 8), (386, 387, 9)] g g44 → P41 g44 → ∀ x46 : Int, x46 = zxadd v114_1 1 → ∃ P50 : zF → Prop, p_2339 g44 x46 P50 ∧ ∀ g53 : zF, zFr [(386, 387, 3), (386, 387, 4), (386, 387, 5), (386, 387, 6), (386, 387, 7), (386, 387, 8), (386, 387, 9)] g44 g53 → P50 g53 → I114 g53 x46) ∧ (x34 = 0 → I143 g v114_1))) ∧
    (∀ (g : zF) (v143_1 : Int), zFr [(386, 387, 1), (386, 387, 10), (388, 416, 1000), (418, 432, 1000), (386, 387, 11), (386, 387, 12), (386, 387, 2), (386, 387, 3), (386, 387, 34), (386, 387, 35), (386, 387, 4), (386, 387, 41), (386, 387, 42), (386, 387, 44), (386, 387, 45), (386, 387, 5), (386, 387, 6), (386, 387, 65), (386, 387, 68), (386, 387, 7), (386, 387, 8), (386, 387, 9)] s0 g → I143 g v143_1 → ∀ x55 : Int, x55 = g (386) 8 → 0 ≤ x55 → x55 ≤ 5 → ∀ g63 : zF, g63 = zup g (386) 10 x55 → ∀ x64 : Int, x64 = g63 (386) 9 → (-1) ≤ x64 → x64 ≤ 1600 → ∀ g72 : zF, g72 = zup g63 (386) 11 x64 → (0 < x55 → ∀ x78 : Int, (-1) ≤ x78 → x78 ≤ (-1) → ∀ g81 : zF, zFr [(415, 416, 1000)] g72 g81 → Q x78 g81) ∧ (x55 ≤ 0 → ∀ x83 : Int, x83 = g72 (386) 35 → 0 ≤ x83 → x83 ≤ 1 → ∀ g91 : zF, g91 = zup g72 (386) 12 x83 → ∀ g97 : zF, zFr [(418, 432, 1000), (386, 387, 65), (386, 387, 68)] g91 g97 → Q v143_1 g97))
set_option maxRecDepth 100000 in
theorem cj_2309 {s0 : zF} {Q1 Q2 : Int → zF → Prop} (h1 : b_2309 s0 Q1) (h2 : p_2309 s0 Q2) : b_2309 s0 (fun v g => Q1 v g ∧ Q2 v g) := by
  obtain ⟨I76, I114, I143, h1E, h1_0, h1_1, h1_2⟩ := h1
  obtain ⟨J76, J114, J143, h2E, h2_0, h2_1, h2_2⟩ := h2
  refine ⟨fun n g y0 => I76 n g y0 ∧ J76 g y0, fun n g y0 => I114 n g y0 ∧ J114 g y0, fun n g y0 => I143 n g y0 ∧ J143 g y0, ?_, ?_, ?_, ?_⟩
  · have h1 := h1E
    have h2 := h2E
    clear h1E h2E h1_0 h2_0 h1_1 h2_1 h1_2 h2_2
    intro x99 a2_0 a2_1 a2_2 g107 a2_3 g112 a2_4 g117 a2_5 g122 a2_6 g127 a2_7 x128 a2_8 a2_9 a2_10 x132 a2_11 g138 a2_12 g143 a2_13 g149 a2_14 g155 a2_15 x157 a2_16
    replace h1 := h1 x99 a2_0 a2_1 a2_2 g107 a2_3 g112 a2_4 g117 a2_5 g122 a2_6 g127 a2_7 x128 a2_8 a2_9 a2_10 x132 a2_11 g138 a2_12 g143 a2_13 g149 a2_14 g155 a2_15 x157 a2_16
    replace h2 := h2 x99 a2_0 a2_1 a2_2 g107 a2_3 g112 a2_4 g117 a2_5 g122 a2_6 g127 a2_7 x128 a2_8 a2_9 a2_10 x132 a2_11 g138 a2_12 g143 a2_13 g149 a2_14 g155 a2_15 x157 a2_16
    obtain ⟨m, hi⟩ := h1
    exact ⟨m, hi, h2⟩
  · intro n g v76_1 e0 e1 e2 hI
    have h1 := h1_0 n g v76_1 e0 e1 e2 hI.1
    have h2 := h2_0 g v76_1 e0 e1 e2 hI.2
    clear h1E h2E hI h1_0 h2_0 h1_1 h2_1 h1_2 h2_2
    intro x1 a2_0 a2_1 a2_2 x5 a2_3 x7 a2_4
    replace h1 := h1 x1 a2_0 a2_1 a2_2 x5 a2_3 x7 a2_4
    replace h2 := h2 x1 a2_0 a2_1 a2_2 x5 a2_3 x7 a2_4
    refine ⟨fun z => ?_, fun z => ?_⟩
    · replace h1 := h1.1 z
      replace h2 := h2.1 z
      intro g14 a3_0 x15 a3_1
      replace h1 := h1 g14 a3_0 x15 a3_1
      replace h2 := h2 g14 a3_0 x15 a3_1
      obtain ⟨m, hm, hi⟩ := h1
      exact ⟨m, hm, hi, h2⟩
    · replace h1 := h1.2 z
      replace h2 := h2.2 z
      intro g21 a3_0
      replace h1 := h1 g21 a3_0
      replace h2 := h2 g21 a3_0
      obtain ⟨P1, c1, h1⟩ := h1
      obtain ⟨P2, c2, h2⟩ := h2
      refine ⟨fun g => P1 g ∧ P2 g, cj_2310 c1 c2, ?_⟩
      intro g27 a3_0 a3_1
      replace h1 := h1 g27 a3_0 a3_1.1
      replace h2 := h2 g27 a3_0 a3_1.2
      obtain ⟨m, hm, hi⟩ := h1
      exact ⟨m, hm, hi, h2⟩
  · intro n g v114_1 e0 hI
    have h1 := h1_1 n g v114_1 e0 hI.1
    have h2 := h2_1 g v114_1 e0 hI.2
    clear h1E h2E hI h1_0 h2_0 h1_1 h2_1 h1_2 h2_2
    intro x29 a2_0 a2_1 a2_2
    replace h1 := h1 x29 a2_0 a2_1 a2_2
    replace h2 := h2 x29 a2_0 a2_1 a2_2
    refine ⟨fun z => ?_, fun z => ?_⟩
    · replace h1 := h1.1 z
      replace h2 := h2.1 z
      obtain ⟨m, hm, hi⟩ := h1
      exact ⟨m, hm, hi, h2⟩
    · replace h1 := h1.2 z
      replace h2 := h2.2 z
      intro x34 a3_0 a3_1 a3_2
      replace h1 := h1 x34 a3_0 a3_1 a3_2
      replace h2 := h2 x34 a3_0 a3_1 a3_2
      refine ⟨fun z => ?_, fun z => ?_⟩
      · replace h1 := h1.1 z
        replace h2 := h2.1 z
        obtain ⟨P1, c1, h1⟩ := h1
        obtain ⟨P2, c2, h2⟩ := h2
        refine ⟨fun g => P1 g ∧ P2 g, cj_2314 c1 c2, ?_⟩
        intro g44 a4_0 a4_1 x46 a4_2
        replace h1 := h1 g44 a4_0 a4_1.1 x46 a4_2
        replace h2 := h2 g44 a4_0 a4_1.2 x46 a4_2
        obtain ⟨P1, c1, h1⟩ := h1
        obtain ⟨P2, c2, h2⟩ := h2
        refine ⟨fun g => P1 g ∧ P2 g, cj_2339 c1 c2, ?_⟩
        intro g53 a4_0 a4_1
        replace h1 := h1 g53 a4_0 a4_1.1
        replace h2 := h2 g53 a4_0 a4_1.2
        obtain ⟨m, hm, hi⟩ := h1
        exact ⟨m, hm, hi, h2⟩
      · replace h1 := h1.2 z
        replace h2 := h2.2 z
        obtain ⟨m, hm, hi⟩ := h1
        exact ⟨m, hm, hi, h2⟩
  · intro n g v143_1 e0 hI
    have h1 := h1_2 n g v143_1 e0 hI.1
    have h2 := h2_2 g v143_1 e0 hI.2
    clear h1E h2E hI h1_0 h2_0 h1_1 h2_1 h1_2 h2_2
    intro x55 a2_0 a2_1 a2_2 g63 a2_3 x64 a2_4 a2_5 a2_6 g72 a2_7
    replace h1 := h1 x55 a2_0 a2_1 a2_2 g63 a2_3 x64 a2_4 a2_5 a2_6 g72 a2_7
    replace h2 := h2 x55 a2_0 a2_1 a2_2 g63 a2_3 x64 a2_4 a2_5 a2_6 g72 a2_7
    refine ⟨fun z => ?_, fun z => ?_⟩
    · replace h1 := h1.1 z
      replace h2 := h2.1 z
      intro x78 a3_0 a3_1 g81 a3_2
      replace h1 := h1 x78 a3_0 a3_1 g81 a3_2
      replace h2 := h2 x78 a3_0 a3_1 g81 a3_2
      exact ⟨h1, h2⟩
    · replace h1 := h1.2 z
      replace h2 := h2.2 z
      intro x83 a3_0 a3_1 a3_2 g91 a3_3
      replace h1 := h1 x83 a3_0 a3_1 a3_2 g91 a3_3
      replace h2 := h2 x83 a3_0 a3_1 a3_2 g91 a3_3
      obtain ⟨P1, c1, h1⟩ := h1
      refine ⟨P1, c1, ?_⟩
      intro g97 a3_0 a3_1
      replace h1 := h1 g97 a3_0 a3_1
      replace h2 := h2 g97 a3_0
      exact ⟨h1, h2⟩
