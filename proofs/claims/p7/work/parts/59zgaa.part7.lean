/-! partial conditions of the Reader (wip/safe/vcp.py) -/
set_option maxRecDepth 100000 in
def p_1290 (s0 : zF) (Q : Int → zF → Prop) : Prop :=
  ∀ x1 : Int, x1 = s0 (2) 7 → 0 ≤ x1 → x1 ≤ 1600 → ∀ x8 : Int, x8 = s0 (4) x1.toNat → 0 ≤ x8 → x8 ≤ 5 → (¬ x8 = 2 → ∀ x15 : Int, 0 ≤ x15 → x15 ≤ 0 → ∀ g18 : zF, zFr [(2, 3, 0), (2, 3, 1)] s0 g18 → Q x15 g18) ∧ (x8 = 2 → ∀ x25 : Int, (-1) ≤ x25 → x25 ≤ 26 → ∀ g28 : zF, zFr [] s0 g28 → (¬ x25 = (-1) → ∀ x36 : Int, 0 ≤ x36 → x36 ≤ 0 → ∀ g39 : zF, zFr [(2, 3, 0), (2, 3, 1)] g28 g39 → Q x36 g39) ∧ (x25 = (-1) → ∀ x45 : Int, x45 = g28 (5) x1.toNat → ∀ g50 : zF, g50 = zup g28 (2) 9 x45 → ∀ b51 : Nat, (b51 : Int) = g50 (2) 8 → (b51 = 7 ∨ b51 = 28) → ∀ x60 : Int, 0 ≤ x60 → x60 ≤ 1 → ∀ g63 : zF, zFr [] g50 g63 → (¬ x60 = 0 → ∀ x71 : Int, 0 ≤ x71 → x71 ≤ 0 → ∀ g74 : zF, zFr [(2, 3, 0), (2, 3, 1)] g63 g74 → Q x71 g74) ∧ (x60 = 0 → ∀ g81 : zF, zFr [(2, 3, 7)] g63 g81 → Q 1 g81)))
set_option maxRecDepth 100000 in
theorem cj_1290 {s0 : zF} {Q1 Q2 : Int → zF → Prop} (h1 : b_1290 s0 Q1) (h2 : p_1290 s0 Q2) : b_1290 s0 (fun v g => Q1 v g ∧ Q2 v g) := by
  unfold b_1290 at h1 ⊢
  unfold p_1290 at h2
  intro x1 a1_0 a1_1 a1_2 x8 a1_3 a1_4 a1_5
  replace h1 := h1 x1 a1_0 a1_1 a1_2 x8 a1_3 a1_4 a1_5
  replace h2 := h2 x1 a1_0 a1_1 a1_2 x8 a1_3 a1_4 a1_5
  refine ⟨fun z => ?_, fun z => ?_⟩
  · replace h1 := h1.1 z
    replace h2 := h2.1 z
    obtain ⟨P1, c1, h1⟩ := h1
    refine ⟨P1, c1, ?_⟩
    intro x15 a2_0 a2_1 g18 a2_2 a2_3
    replace h1 := h1 x15 a2_0 a2_1 g18 a2_2 a2_3
    replace h2 := h2 x15 a2_0 a2_1 g18 a2_2
    exact ⟨h1, h2⟩
  · replace h1 := h1.2 z
    replace h2 := h2.2 z
    obtain ⟨P1, c1, h1⟩ := h1
    refine ⟨P1, c1, ?_⟩
    intro x25 a2_0 a2_1 g28 a2_2 a2_3
    replace h1 := h1 x25 a2_0 a2_1 g28 a2_2 a2_3
    replace h2 := h2 x25 a2_0 a2_1 g28 a2_2
    refine ⟨fun z => ?_, fun z => ?_⟩
    · replace h1 := h1.1 z
      replace h2 := h2.1 z
      obtain ⟨P1, c1, h1⟩ := h1
      refine ⟨P1, c1, ?_⟩
      intro x36 a3_0 a3_1 g39 a3_2 a3_3
      replace h1 := h1 x36 a3_0 a3_1 g39 a3_2 a3_3
      replace h2 := h2 x36 a3_0 a3_1 g39 a3_2
      exact ⟨h1, h2⟩
    · replace h1 := h1.2 z
      replace h2 := h2.2 z
      intro x45 a3_0 g50 a3_1 b51 a3_2 a3_3
      replace h1 := h1 x45 a3_0 g50 a3_1 b51 a3_2 a3_3
      replace h2 := h2 x45 a3_0 g50 a3_1 b51 a3_2 a3_3
      obtain ⟨P1, c1, h1⟩ := h1
      refine ⟨P1, c1, ?_⟩
      intro x60 a3_0 a3_1 g63 a3_2 a3_3
      replace h1 := h1 x60 a3_0 a3_1 g63 a3_2 a3_3
      replace h2 := h2 x60 a3_0 a3_1 g63 a3_2
      refine ⟨fun z => ?_, fun z => ?_⟩
      · replace h1 := h1.1 z
        replace h2 := h2.1 z
        obtain ⟨P1, c1, h1⟩ := h1
        refine ⟨P1, c1, ?_⟩
        intro x71 a4_0 a4_1 g74 a4_2 a4_3
        replace h1 := h1 x71 a4_0 a4_1 g74 a4_2 a4_3
        replace h2 := h2 x71 a4_0 a4_1 g74 a4_2
        exact ⟨h1, h2⟩
      · replace h1 := h1.2 z
        replace h2 := h2.2 z
        obtain ⟨P1, c1, h1⟩ := h1
        refine ⟨P1, c1, ?_⟩
        intro g81 a4_0 a4_1
        replace h1 := h1 g81 a4_0 a4_1
        replace h2 := h2 g81 a4_0
        exact ⟨h1, h2⟩
set_option maxRecDepth 100000 in
def p_1291 (s0 : zF) (a0 : Int) (Q : Int → zF → Prop) : Prop :=
  ∀ x6 : Int, (-1) ≤ x6 → x6 ≤ 26 → ∀ g9 : zF, zFr [] s0 g9 → (¬ x6 = a0 → ∀ x17 : Int, 0 ≤ x17 → x17 ≤ 0 → ∀ g20 : zF, zFr [(2, 3, 0), (2, 3, 1)] g9 g20 → Q x17 g20) ∧ (x6 = a0 → ∀ g27 : zF, zFr [(2, 3, 7)] g9 g27 → Q 1 g27)
set_option maxRecDepth 100000 in
theorem cj_1291 {s0 : zF} {a0 : Int} {Q1 Q2 : Int → zF → Prop} (h1 : b_1291 s0 a0 Q1) (h2 : p_1291 s0 a0 Q2) : b_1291 s0 a0 (fun v g => Q1 v g ∧ Q2 v g) := by
  unfold b_1291 at h1 ⊢
  unfold p_1291 at h2
  obtain ⟨P1, c1, h1⟩ := h1
  refine ⟨P1, c1, ?_⟩
  intro x6 a1_0 a1_1 g9 a1_2 a1_3
  replace h1 := h1 x6 a1_0 a1_1 g9 a1_2 a1_3
  replace h2 := h2 x6 a1_0 a1_1 g9 a1_2
  refine ⟨fun z => ?_, fun z => ?_⟩
  · replace h1 := h1.1 z
    replace h2 := h2.1 z
    obtain ⟨P1, c1, h1⟩ := h1
    refine ⟨P1, c1, ?_⟩
    intro x17 a2_0 a2_1 g20 a2_2 a2_3
    replace h1 := h1 x17 a2_0 a2_1 g20 a2_2 a2_3
    replace h2 := h2 x17 a2_0 a2_1 g20 a2_2
    exact ⟨h1, h2⟩
  · replace h1 := h1.2 z
    replace h2 := h2.2 z
    obtain ⟨P1, c1, h1⟩ := h1
    refine ⟨P1, c1, ?_⟩
    intro g27 a2_0 a2_1
    replace h1 := h1 g27 a2_0 a2_1
    replace h2 := h2 g27 a2_0
    exact ⟨h1, h2⟩
set_option maxRecDepth 100000 in
def p_1292 (s0 : zF) (a0 : Int) (a1 : Int) (Q : Int → zF → Prop) : Prop :=
  ∀ x1 : Int, x1 = s0 (2) 7 → 0 ≤ x1 → x1 ≤ 1600 → ∀ x8 : Int, x8 = s0 (4) x1.toNat → 0 ≤ x8 → x8 ≤ 5 → (¬ x8 = 4 → ∀ x15 : Int, 0 ≤ x15 → x15 ≤ 0 → ∀ g18 : zF, zFr [(2, 3, 0), (2, 3, 1)] s0 g18 → Q x15 g18) ∧ (x8 = 4 → ∀ x23 : Int, x23 = s0 (5) x1.toNat → ∀ g28 : zF, g28 = zup s0 (2) 10 x23 → (x23 < a0 → ∀ x35 : Int, 0 ≤ x35 → x35 ≤ 0 → ∀ g38 : zF, zFr [(2, 3, 0), (2, 3, 1)] g28 g38 → Q x35 g38) ∧ (a0 ≤ x23 → (a1 < x23 → ∀ x46 : Int, 0 ≤ x46 → x46 ≤ 0 → ∀ g49 : zF, zFr [(2, 3, 0), (2, 3, 1)] g28 g49 → Q x46 g49) ∧ (x23 ≤ a1 → ∀ g56 : zF, zFr [(2, 3, 7)] g28 g56 → Q 1 g56)))
set_option maxRecDepth 100000 in
theorem cj_1292 {s0 : zF} {a0 : Int} {a1 : Int} {Q1 Q2 : Int → zF → Prop} (h1 : b_1292 s0 a0 a1 Q1) (h2 : p_1292 s0 a0 a1 Q2) : b_1292 s0 a0 a1 (fun v g => Q1 v g ∧ Q2 v g) := by
  unfold b_1292 at h1 ⊢
  unfold p_1292 at h2
  intro x1 a1_0 a1_1 a1_2 x8 a1_3 a1_4 a1_5
  replace h1 := h1 x1 a1_0 a1_1 a1_2 x8 a1_3 a1_4 a1_5
  replace h2 := h2 x1 a1_0 a1_1 a1_2 x8 a1_3 a1_4 a1_5
  refine ⟨fun z => ?_, fun z => ?_⟩
  · replace h1 := h1.1 z
    replace h2 := h2.1 z
    obtain ⟨P1, c1, h1⟩ := h1
    refine ⟨P1, c1, ?_⟩
    intro x15 a2_0 a2_1 g18 a2_2 a2_3
    replace h1 := h1 x15 a2_0 a2_1 g18 a2_2 a2_3
    replace h2 := h2 x15 a2_0 a2_1 g18 a2_2
    exact ⟨h1, h2⟩
  · replace h1 := h1.2 z
    replace h2 := h2.2 z
    intro x23 a2_0 g28 a2_1
    replace h1 := h1 x23 a2_0 g28 a2_1
    replace h2 := h2 x23 a2_0 g28 a2_1
    refine ⟨fun z => ?_, fun z => ?_⟩
    · replace h1 := h1.1 z
      replace h2 := h2.1 z
      obtain ⟨P1, c1, h1⟩ := h1
      refine ⟨P1, c1, ?_⟩
      intro x35 a3_0 a3_1 g38 a3_2 a3_3
      replace h1 := h1 x35 a3_0 a3_1 g38 a3_2 a3_3
      replace h2 := h2 x35 a3_0 a3_1 g38 a3_2
      exact ⟨h1, h2⟩
    · replace h1 := h1.2 z
      replace h2 := h2.2 z
      refine ⟨fun z => ?_, fun z => ?_⟩
      · replace h1 := h1.1 z
        replace h2 := h2.1 z
        obtain ⟨P1, c1, h1⟩ := h1
        refine ⟨P1, c1, ?_⟩
        intro x46 a4_0 a4_1 g49 a4_2 a4_3
        replace h1 := h1 x46 a4_0 a4_1 g49 a4_2 a4_3
        replace h2 := h2 x46 a4_0 a4_1 g49 a4_2
        exact ⟨h1, h2⟩
      · replace h1 := h1.2 z
        replace h2 := h2.2 z
        obtain ⟨P1, c1, h1⟩ := h1
        refine ⟨P1, c1, ?_⟩
        intro g56 a4_0 a4_1
        replace h1 := h1 g56 a4_0 a4_1
        replace h2 := h2 g56 a4_0
        exact ⟨h1, h2⟩
set_option maxRecDepth 100000 in
def p_1293 (s0 : zF) (a0 : Int) (Q : Int → zF → Prop) : Prop :=
  ∃ (I12 : zF → Int → Int → Prop),
    (∀ b100 : Nat, (b100 : Int) = s0 (2) 8 → (b100 = 7 ∨ b100 = 28) → ∀ g108 : zF, g108 = zup s0 (b100 + 6) a0.toNat 0 → I12 g108 a0 0) ∧
    (∀ (g : zF) (v12_1 : Int) (v12_2 : Int), zFr [(2, 3, 0), (2, 3, 1), (13, 14, 1000), (34, 35, 1000), (2, 3, 7)] s0 g → 0 ≤ v12_1 → v12_1 ≤ 11 → 0 ≤ v12_2 → v12_2 ≤ 3 → I12 g v12_1 v12_2 → (2 < v12_2 → Q 1 g) ∧ (v12_2 ≤ 2 → ∀ x7 : Int, (-1) ≤ x7 → x7 ≤ 26 → ∀ g10 : zF, zFr [] g g10 → (¬ x7 = 10 → (¬ x7 = 11 → Q 1 g10) ∧ (x7 = 11 → ∀ b14 : Nat, (b14 : Int) = g10 (2) 8 → (b14 = 7 ∨ b14 = 28) → ∀ x21 : Int, x21 = g10 (b14 + 6) v12_1.toNat → 0 ≤ x21 → x21 ≤ 3 → ∀ x23 : Int, x23 = zxand x21 2 → 0 ≤ x23 → x23 ≤ 2 → (¬ x23 = 0 → ∀ x32 : Int, 0 ≤ x32 → x32 ≤ 0 → ∀ g35 : zF, zFr [(2, 3, 0), (2, 3, 1)] g10 g35 → Q x32 g35) ∧ (x23 = 0 → ∀ x41 : Int, x41 = zxor x21 2 → (0 ≤ x41 ∧ x41 ≤ 3) → ∀ g47 : zF, g47 = zup g10 (b14 + 6) v12_1.toNat x41 → ∀ g53 : zF, zFr [(2, 3, 7)] g47 g53 → ∀ x55 : Int, x55 = v12_2 + 1 → I12 g53 v12_1 x55))) ∧ (x7 = 10 → ∀ b57 : Nat, (b57 : Int) = g10 (2) 8 → (b57 = 7 ∨ b57 = 28) → ∀ x64 : Int, x64 = g10 (b57 + 6) v12_1.toNat → 0 ≤ x64 → x64 ≤ 3 → ∀ x66 : Int, x66 = zxand x64 1 → 0 ≤ x66 → x66 ≤ 1 → (¬ x66 = 0 → ∀ x75 : Int, 0 ≤ x75 → x75 ≤ 0 → ∀ g78 : zF, zFr [(2, 3, 0), (2, 3, 1)] g10 g78 → Q x75 g78) ∧ (x66 = 0 → ∀ x84 : Int, x84 = zxor x64 1 → (0 ≤ x84 ∧ x84 ≤ 3) → ∀ g90 : zF, g90 = zup g10 (b57 + 6) v12_1.toNat x84 → ∀ g96 : zF, zFr [(2, 3, 7)] g90 g96 → ∀ x98 : Int, x98 = v12_2 + 1 → I12 g96 v12_1 x98))))
set_option maxRecDepth 100000 in
theorem cj_1293 {s0 : zF} {a0 : Int} {Q1 Q2 : Int → zF → Prop} (h1 : b_1293 s0 a0 Q1) (h2 : p_1293 s0 a0 Q2) : b_1293 s0 a0 (fun v g => Q1 v g ∧ Q2 v g) := by
  obtain ⟨I12, h1E, h1_0⟩ := h1
  obtain ⟨J12, h2E, h2_0⟩ := h2
  refine ⟨fun n g y0 y1 => I12 n g y0 y1 ∧ J12 g y0 y1, ?_, ?_⟩
  · have h1 := h1E
    have h2 := h2E
    clear h1E h2E h1_0 h2_0
    intro b100 a2_0 a2_1 g108 a2_2
    replace h1 := h1 b100 a2_0 a2_1 g108 a2_2
    replace h2 := h2 b100 a2_0 a2_1 g108 a2_2
    obtain ⟨m, hi⟩ := h1
    exact ⟨m, hi, h2⟩
  · intro n g v12_1 v12_2 e0 e1 e2 e3 e4 hI
    have h1 := h1_0 n g v12_1 v12_2 e0 e1 e2 e3 e4 hI.1
    have h2 := h2_0 g v12_1 v12_2 e0 e1 e2 e3 e4 hI.2
    clear h1E h2E hI h1_0 h2_0
    refine ⟨fun z => ?_, fun z => ?_⟩
    · replace h1 := h1.1 z
      replace h2 := h2.1 z
      exact ⟨h1, h2⟩
    · replace h1 := h1.2 z
      replace h2 := h2.2 z
      obtain ⟨P1, c1, h1⟩ := h1
      refine ⟨P1, c1, ?_⟩
      intro x7 a3_0 a3_1 g10 a3_2 a3_3
      replace h1 := h1 x7 a3_0 a3_1 g10 a3_2 a3_3
      replace h2 := h2 x7 a3_0 a3_1 g10 a3_2
      refine ⟨fun z => ?_, fun z => ?_⟩
      · replace h1 := h1.1 z
        replace h2 := h2.1 z
        refine ⟨fun z => ?_, fun z => ?_⟩
        · replace h1 := h1.1 z
          replace h2 := h2.1 z
          exact ⟨h1, h2⟩
        · replace h1 := h1.2 z
          replace h2 := h2.2 z
          intro b14 a5_0 a5_1 x21 a5_2 a5_3 a5_4 x23 a5_5 a5_6 a5_7
          replace h1 := h1 b14 a5_0 a5_1 x21 a5_2 a5_3 a5_4 x23 a5_5 a5_6 a5_7
          replace h2 := h2 b14 a5_0 a5_1 x21 a5_2 a5_3 a5_4 x23 a5_5 a5_6 a5_7
          refine ⟨fun z => ?_, fun z => ?_⟩
          · replace h1 := h1.1 z
            replace h2 := h2.1 z
            obtain ⟨P1, c1, h1⟩ := h1
            refine ⟨P1, c1, ?_⟩
            intro x32 a6_0 a6_1 g35 a6_2 a6_3
            replace h1 := h1 x32 a6_0 a6_1 g35 a6_2 a6_3
            replace h2 := h2 x32 a6_0 a6_1 g35 a6_2
            exact ⟨h1, h2⟩
          · replace h1 := h1.2 z
            replace h2 := h2.2 z
            intro x41 a6_0
            replace h1 := h1 x41 a6_0
            replace h2 := h2 x41 a6_0
            refine ⟨h1.1, ?_⟩
            replace h2 := h2 h1.1
            replace h1 := h1.2
            intro g47 a6_0
            replace h1 := h1 g47 a6_0
            replace h2 := h2 g47 a6_0
            obtain ⟨P1, c1, h1⟩ := h1
            refine ⟨P1, c1, ?_⟩
            intro g53 a6_0 a6_1 x55 a6_2
            replace h1 := h1 g53 a6_0 a6_1 x55 a6_2
            replace h2 := h2 g53 a6_0 x55 a6_2
            obtain ⟨m, hm, hi⟩ := h1
            exact ⟨m, hm, hi, h2⟩
      · replace h1 := h1.2 z
        replace h2 := h2.2 z
        intro b57 a4_0 a4_1 x64 a4_2 a4_3 a4_4 x66 a4_5 a4_6 a4_7
        replace h1 := h1 b57 a4_0 a4_1 x64 a4_2 a4_3 a4_4 x66 a4_5 a4_6 a4_7
        replace h2 := h2 b57 a4_0 a4_1 x64 a4_2 a4_3 a4_4 x66 a4_5 a4_6 a4_7
        refine ⟨fun z => ?_, fun z => ?_⟩
        · replace h1 := h1.1 z
          replace h2 := h2.1 z
          obtain ⟨P1, c1, h1⟩ := h1
          refine ⟨P1, c1, ?_⟩
          intro x75 a5_0 a5_1 g78 a5_2 a5_3
          replace h1 := h1 x75 a5_0 a5_1 g78 a5_2 a5_3
          replace h2 := h2 x75 a5_0 a5_1 g78 a5_2
          exact ⟨h1, h2⟩
        · replace h1 := h1.2 z
          replace h2 := h2.2 z
          intro x84 a5_0
          replace h1 := h1 x84 a5_0
          replace h2 := h2 x84 a5_0
          refine ⟨h1.1, ?_⟩
          replace h2 := h2 h1.1
          replace h1 := h1.2
          intro g90 a5_0
          replace h1 := h1 g90 a5_0
          replace h2 := h2 g90 a5_0
          obtain ⟨P1, c1, h1⟩ := h1
          refine ⟨P1, c1, ?_⟩
          intro g96 a5_0 a5_1 x98 a5_2
          replace h1 := h1 g96 a5_0 a5_1 x98 a5_2
          replace h2 := h2 g96 a5_0 x98 a5_2
          obtain ⟨m, hm, hi⟩ := h1
          exact ⟨m, hm, hi, h2⟩
set_option maxRecDepth 100000 in
def p_1288 (s0 : zF) (Q : Int → zF → Prop) : Prop :=
  ∀ b1 : Nat, (b1 : Int) = s0 (2) 8 → (b1 = 7 ∨ b1 = 28) → ∀ x5 : Int, x5 = s0 (b1) 1 → 0 ≤ x5 → x5 ≤ 12 → (x5 < 12 → ∀ g15 : zF, zFr [(2, 3, 7)] s0 g15 → ∃ P19 : Int → zF → Prop, p_1290 g15 P19 ∧ ∀ x22 : Int, 0 ≤ x22 → x22 ≤ 1 → ∀ g25 : zF, zFr [(2, 3, 0), (2, 3, 1), (2, 3, 7), (2, 3, 9)] g15 g25 → P19 x22 g25 → (¬ x22 = 0 → ∀ x29 : Int, x29 = g25 (2) 9 → ∀ g37 : zF, g37 = zup g25 (b1 + 1) x5.toNat x29 → ∃ P40 : Int → zF → Prop, p_1291 g37 1 P40 ∧ ∀ x43 : Int, 0 ≤ x43 → x43 ≤ 1 → ∀ g46 : zF, zFr [(2, 3, 0), (2, 3, 1), (2, 3, 7)] g37 g46 → P40 x43 g46 → (¬ x43 = 0 → ∃ P51 : Int → zF → Prop, p_1292 g46 1 99 P51 ∧ ∀ x54 : Int, 0 ≤ x54 → x54 ≤ 1 → ∀ g57 : zF, zFr [(2, 3, 0), (2, 3, 1), (2, 3, 10), (2, 3, 7)] g46 g57 → P51 x54 g57 → (¬ x54 = 0 → ∀ x61 : Int, x61 = g57 (2) 10 → ∀ g69 : zF, g69 = zup g57 (b1 + 2) x5.toNat x61 → ∃ P72 : Int → zF → Prop, p_1291 g69 2 P72 ∧ ∀ x75 : Int, 0 ≤ x75 → x75 ≤ 1 → ∀ g78 : zF, zFr [(2, 3, 0), (2, 3, 1), (2, 3, 7)] g69 g78 → P72 x75 g78 → (¬ x75 = 0 → ∃ P83 : Int → zF → Prop, p_1292 g78 1 999 P83 ∧ ∀ x86 : Int, 0 ≤ x86 → x86 ≤ 1 → ∀ g89 : zF, zFr [(2, 3, 0), (2, 3, 1), (2, 3, 10), (2, 3, 7)] g78 g89 → P83 x86 g89 → (¬ x86 = 0 → ∀ x93 : Int, x93 = g89 (2) 10 → ∀ g101 : zF, g101 = zup g89 (b1 + 3) x5.toNat x93 → ∃ P104 : Int → zF → Prop, p_1291 g101 8 P104 ∧ ∀ x107 : Int, 0 ≤ x107 → x107 ≤ 1 → ∀ g110 : zF, zFr [(2, 3, 0), (2, 3, 1), (2, 3, 7)] g101 g110 → P104 x107 g110 → (¬ x107 = 0 → ∃ P115 : Int → zF → Prop, p_1292 g110 0 100 P115 ∧ ∀ x118 : Int, 0 ≤ x118 → x118 ≤ 1 → ∀ g121 : zF, zFr [(2, 3, 0), (2, 3, 1), (2, 3, 10), (2, 3, 7)] g110 g121 → P115 x118 g121 → (¬ x118 = 0 → ∀ x125 : Int, x125 = g121 (2) 10 → ∀ g133 : zF, g133 = zup g121 (b1 + 4) x5.toNat x125 → ∃ P136 : Int → zF → Prop, p_1291 g133 9 P136 ∧ ∀ x139 : Int, 0 ≤ x139 → x139 ≤ 1 → ∀ g142 : zF, zFr [(2, 3, 0), (2, 3, 1), (2, 3, 7)] g133 g142 → P136 x139 g142 → (¬ x139 = 0 → ∃ P147 : Int → zF → Prop, p_1292 g142 0 99 P147 ∧ ∀ x150 : Int, 0 ≤ x150 → x150 ≤ 1 → ∀ g153 : zF, zFr [(2, 3, 0), (2, 3, 1), (2, 3, 10), (2, 3, 7)] g142 g153 → P147 x150 g153 → (¬ x150 = 0 → ∀ x157 : Int, x157 = g153 (2) 10 → ∀ g165 : zF, g165 = zup g153 (b1 + 5) x5.toNat x157 → ∀ x168 : Int, x168 = x5 + 1 → ∀ g174 : zF, g174 = zup g165 (b1) 1 x168 → ∃ P177 : Int → zF → Prop, p_1293 g174 x5 P177 ∧ ∀ x180 : Int, 0 ≤ x180 → x180 ≤ 1 → ∀ g183 : zF, zFr [(2, 3, 0), (2, 3, 1), (13, 14, 1000), (34, 35, 1000), (2, 3, 7)] g174 g183 → P177 x180 g183 → Q x180 g183) ∧ (x150 = 0 → Q 0 g153)) ∧ (x139 = 0 → Q 0 g142)) ∧ (x118 = 0 → Q 0 g121)) ∧ (x107 = 0 → Q 0 g110)) ∧ (x86 = 0 → Q 0 g89)) ∧ (x75 = 0 → Q 0 g78)) ∧ (x54 = 0 → Q 0 g57)) ∧ (x43 = 0 → Q 0 g46)) ∧ (x22 = 0 → Q 0 g25)) ∧ (12 ≤ x5 → ∀ x190 : Int, 0 ≤ x190 → x190 ≤ 0 → ∀ g193 : zF, zFr [(2, 3, 0), (2, 3, 1)] s0 g193 → Q x190 g193)
set_option maxRecDepth 100000 in
theorem cj_1288 {s0 : zF} {Q1 Q2 : Int → zF → Prop} (h1 : b_1288 s0 Q1) (h2 : p_1288 s0 Q2) : b_1288 s0 (fun v g => Q1 v g ∧ Q2 v g) := by
  unfold b_1288 at h1 ⊢
  unfold p_1288 at h2
  intro b1 a1_0 a1_1 x5 a1_2 a1_3 a1_4
  replace h1 := h1 b1 a1_0 a1_1 x5 a1_2 a1_3 a1_4
  replace h2 := h2 b1 a1_0 a1_1 x5 a1_2 a1_3 a1_4
  refine ⟨fun z => ?_, fun z => ?_⟩
  · replace h1 := h1.1 z
    replace h2 := h2.1 z
    obtain ⟨P1, c1, h1⟩ := h1
    refine ⟨P1, c1, ?_⟩
    intro g15 a2_0 a2_1
    replace h1 := h1 g15 a2_0 a2_1
    replace h2 := h2 g15 a2_0
    obtain ⟨P1, c1, h1⟩ := h1
    obtain ⟨P2, c2, h2⟩ := h2
    refine ⟨fun v g => P1 v g ∧ P2 v g, cj_1290 c1 c2, ?_⟩
    intro x22 a2_0 a2_1 g25 a2_2 a2_3
    replace h1 := h1 x22 a2_0 a2_1 g25 a2_2 a2_3.1
    replace h2 := h2 x22 a2_0 a2_1 g25 a2_2 a2_3.2
    refine ⟨fun z => ?_, fun z => ?_⟩
    · replace h1 := h1.1 z
      replace h2 := h2.1 z
      intro x29 a3_0 g37 a3_1
      replace h1 := h1 x29 a3_0 g37 a3_1
      replace h2 := h2 x29 a3_0 g37 a3_1
      obtain ⟨P1, c1, h1⟩ := h1
      obtain ⟨P2, c2, h2⟩ := h2
      refine ⟨fun v g => P1 v g ∧ P2 v g, cj_1291 c1 c2, ?_⟩
      intro x43 a3_0 a3_1 g46 a3_2 a3_3
      replace h1 := h1 x43 a3_0 a3_1 g46 a3_2 a3_3.1
      replace h2 := h2 x43 a3_0 a3_1 g46 a3_2 a3_3.2
      refine ⟨fun z => ?_, fun z => ?_⟩
      · replace h1 := h1.1 z
        replace h2 := h2.1 z
        obtain ⟨P1, c1, h1⟩ := h1
        obtain ⟨P2, c2, h2⟩ := h2
        refine ⟨fun v g => P1 v g ∧ P2 v g, cj_1292 c1 c2, ?_⟩
        intro x54 a4_0 a4_1 g57 a4_2 a4_3
        replace h1 := h1 x54 a4_0 a4_1 g57 a4_2 a4_3.1
        replace h2 := h2 x54 a4_0 a4_1 g57 a4_2 a4_3.2
        refine ⟨fun z => ?_, fun z => ?_⟩
        · replace h1 := h1.1 z
          replace h2 := h2.1 z
          intro x61 a5_0 g69 a5_1
          replace h1 := h1 x61 a5_0 g69 a5_1
          replace h2 := h2 x61 a5_0 g69 a5_1
          obtain ⟨P1, c1, h1⟩ := h1
          obtain ⟨P2, c2, h2⟩ := h2
          refine ⟨fun v g => P1 v g ∧ P2 v g, cj_1291 c1 c2, ?_⟩
          intro x75 a5_0 a5_1 g78 a5_2 a5_3
          replace h1 := h1 x75 a5_0 a5_1 g78 a5_2 a5_3.1
          replace h2 := h2 x75 a5_0 a5_1 g78 a5_2 a5_3.2
          refine ⟨fun z => ?_, fun z => ?_⟩
          · replace h1 := h1.1 z
            replace h2 := h2.1 z
            obtain ⟨P1, c1, h1⟩ := h1
            obtain ⟨P2, c2, h2⟩ := h2
            refine ⟨fun v g => P1 v g ∧ P2 v g, cj_1292 c1 c2, ?_⟩
            intro x86 a6_0 a6_1 g89 a6_2 a6_3
            replace h1 := h1 x86 a6_0 a6_1 g89 a6_2 a6_3.1
            replace h2 := h2 x86 a6_0 a6_1 g89 a6_2 a6_3.2
            refine ⟨fun z => ?_, fun z => ?_⟩
            · replace h1 := h1.1 z
              replace h2 := h2.1 z
              intro x93 a7_0 g101 a7_1
              replace h1 := h1 x93 a7_0 g101 a7_1
              replace h2 := h2 x93 a7_0 g101 a7_1
              obtain ⟨P1, c1, h1⟩ := h1
              obtain ⟨P2, c2, h2⟩ := h2
              refine ⟨fun v g => P1 v g ∧ P2 v g, cj_1291 c1 c2, ?_⟩
              intro x107 a7_0 a7_1 g110 a7_2 a7_3
              replace h1 := h1 x107 a7_0 a7_1 g110 a7_2 a7_3.1
              replace h2 := h2 x107 a7_0 a7_1 g110 a7_2 a7_3.2
              refine ⟨fun z => ?_, fun z => ?_⟩
              · replace h1 := h1.1 z
                replace h2 := h2.1 z
                obtain ⟨P1, c1, h1⟩ := h1
                obtain ⟨P2, c2, h2⟩ := h2
                refine ⟨fun v g => P1 v g ∧ P2 v g, cj_1292 c1 c2, ?_⟩
                intro x118 a8_0 a8_1 g121 a8_2 a8_3
                replace h1 := h1 x118 a8_0 a8_1 g121 a8_2 a8_3.1
                replace h2 := h2 x118 a8_0 a8_1 g121 a8_2 a8_3.2
                refine ⟨fun z => ?_, fun z => ?_⟩
                · replace h1 := h1.1 z
                  replace h2 := h2.1 z
                  intro x125 a9_0 g133 a9_1
                  replace h1 := h1 x125 a9_0 g133 a9_1
                  replace h2 := h2 x125 a9_0 g133 a9_1
                  obtain ⟨P1, c1, h1⟩ := h1
                  obtain ⟨P2, c2, h2⟩ := h2
                  refine ⟨fun v g => P1 v g ∧ P2 v g, cj_1291 c1 c2, ?_⟩
                  intro x139 a9_0 a9_1 g142 a9_2 a9_3
                  replace h1 := h1 x139 a9_0 a9_1 g142 a9_2 a9_3.1
                  replace h2 := h2 x139 a9_0 a9_1 g142 a9_2 a9_3.2
                  refine ⟨fun z => ?_, fun z => ?_⟩
                  · replace h1 := h1.1 z
                    replace h2 := h2.1 z
                    obtain ⟨P1, c1, h1⟩ := h1
                    obtain ⟨P2, c2, h2⟩ := h2
                    refine ⟨fun v g => P1 v g ∧ P2 v g, cj_1292 c1 c2, ?_⟩
                    intro x150 a10_0 a10_1 g153 a10_2 a10_3
                    replace h1 := h1 x150 a10_0 a10_1 g153 a10_2 a10_3.1
                    replace h2 := h2 x150 a10_0 a10_1 g153 a10_2 a10_3.2
                    refine ⟨fun z => ?_, fun z => ?_⟩
                    · replace h1 := h1.1 z
                      replace h2 := h2.1 z
                      intro x157 a11_0 g165 a11_1 x168 a11_2 g174 a11_3
                      replace h1 := h1 x157 a11_0 g165 a11_1 x168 a11_2 g174 a11_3
                      replace h2 := h2 x157 a11_0 g165 a11_1 x168 a11_2 g174 a11_3
                      obtain ⟨P1, c1, h1⟩ := h1
                      obtain ⟨P2, c2, h2⟩ := h2
                      refine ⟨fun v g => P1 v g ∧ P2 v g, cj_1293 c1 c2, ?_⟩
                      intro x180 a11_0 a11_1 g183 a11_2 a11_3
                      replace h1 := h1 x180 a11_0 a11_1 g183 a11_2 a11_3.1
                      replace h2 := h2 x180 a11_0 a11_1 g183 a11_2 a11_3.2
                      exact ⟨h1, h2⟩
                    · replace h1 := h1.2 z
                      replace h2 := h2.2 z
                      exact ⟨h1, h2⟩
                  · replace h1 := h1.2 z
                    replace h2 := h2.2 z
                    exact ⟨h1, h2⟩
                · replace h1 := h1.2 z
                  replace h2 := h2.2 z
                  exact ⟨h1, h2⟩
              · replace h1 := h1.2 z
                replace h2 := h2.2 z
                exact ⟨h1, h2⟩
            · replace h1 := h1.2 z
              replace h2 := h2.2 z
              exact ⟨h1, h2⟩
          · replace h1 := h1.2 z
            replace h2 := h2.2 z
            exact ⟨h1, h2⟩
        · replace h1 := h1.2 z
          replace h2 := h2.2 z
          exact ⟨h1, h2⟩
      · replace h1 := h1.2 z
        replace h2 := h2.2 z
        exact ⟨h1, h2⟩
    · replace h1 := h1.2 z
      replace h2 := h2.2 z
      exact ⟨h1, h2⟩
  · replace h1 := h1.2 z
    replace h2 := h2.2 z
    obtain ⟨P1, c1, h1⟩ := h1
    refine ⟨P1, c1, ?_⟩
    intro x190 a2_0 a2_1 g193 a2_2 a2_3
    replace h1 := h1 x190 a2_0 a2_1 g193 a2_2 a2_3
    replace h2 := h2 x190 a2_0 a2_1 g193 a2_2
    exact ⟨h1, h2⟩
set_option maxRecDepth 100000 in
def p_1294 (s0 : zF) (Q : Int → zF → Prop) : Prop :=
  ∀ g6 : zF, zFr [(2, 3, 7)] s0 g6 → ∀ x8 : Int, x8 = g6 (2) 7 → 0 ≤ x8 → x8 ≤ 1600 → ∀ x15 : Int, x15 = g6 (4) x8.toNat → 0 ≤ x15 → x15 ≤ 5 → (¬ x15 = 4 → ∀ x22 : Int, 0 ≤ x22 → x22 ≤ 0 → ∀ g25 : zF, zFr [(2, 3, 0), (2, 3, 1)] g6 g25 → Q 0 g25) ∧ (x15 = 4 → ∀ x30 : Int, x30 = g6 (5) x8.toNat → ∀ g35 : zF, g35 = zup g6 (2) 10 x30 → (x30 < 0 → ∀ x42 : Int, 0 ≤ x42 → x42 ≤ 0 → ∀ g45 : zF, zFr [(2, 3, 0), (2, 3, 1)] g35 g45 → Q 0 g45) ∧ (0 ≤ x30 → (99 < x30 → ∀ x53 : Int, 0 ≤ x53 → x53 ≤ 0 → ∀ g56 : zF, zFr [(2, 3, 0), (2, 3, 1)] g35 g56 → Q 0 g56) ∧ (x30 ≤ 99 → ∀ g63 : zF, zFr [(2, 3, 7)] g35 g63 → ∃ P68 : Int → zF → Prop, p_1291 g63 13 P68 ∧ ∀ x71 : Int, 0 ≤ x71 → x71 ≤ 1 → ∀ g74 : zF, zFr [(2, 3, 0), (2, 3, 1), (2, 3, 7)] g63 g74 → P68 x71 g74 → (¬ x71 = 0 → ∀ x77 : Int, x77 = g74 (2) 7 → 0 ≤ x77 → x77 ≤ 1600 → ∀ x84 : Int, x84 = g74 (4) x77.toNat → 0 ≤ x84 → x84 ≤ 5 → (¬ x84 = 4 → ∀ x91 : Int, 0 ≤ x91 → x91 ≤ 0 → ∀ g94 : zF, zFr [(2, 3, 0), (2, 3, 1)] g74 g94 → Q 0 g94) ∧ (x84 = 4 → ∀ x99 : Int, x99 = g74 (5) x77.toNat → ∀ g104 : zF, g104 = zup g74 (2) 10 x99 → (x99 < 0 → ∀ x111 : Int, 0 ≤ x111 → x111 ≤ 0 → ∀ g114 : zF, zFr [(2, 3, 0), (2, 3, 1)] g104 g114 → Q 0 g114) ∧ (0 ≤ x99 → (10 < x99 → ∀ x122 : Int, 0 ≤ x122 → x122 ≤ 0 → ∀ g125 : zF, zFr [(2, 3, 0), (2, 3, 1)] g104 g125 → Q 0 g125) ∧ (x99 ≤ 10 → ∀ g132 : zF, zFr [(2, 3, 7)] g104 g132 → ∀ b134 : Nat, (b134 : Int) = g132 (2) 8 → (b134 = 7 ∨ b134 = 28) → ∀ g143 : zF, g143 = zup g132 (b134 + 12) x99.toNat x30 → Q 1 g143)))) ∧ (x71 = 0 → Q 0 g74))))
set_option maxRecDepth 100000 in
theorem cj_1294 {s0 : zF} {Q1 Q2 : Int → zF → Prop} (h1 : b_1294 s0 Q1) (h2 : p_1294 s0 Q2) : b_1294 s0 (fun v g => Q1 v g ∧ Q2 v g) := by
  unfold b_1294 at h1 ⊢
  unfold p_1294 at h2
  obtain ⟨P1, c1, h1⟩ := h1
  refine ⟨P1, c1, ?_⟩
  intro g6 a1_0 a1_1 x8 a1_2 a1_3 a1_4 x15 a1_5 a1_6 a1_7
  replace h1 := h1 g6 a1_0 a1_1 x8 a1_2 a1_3 a1_4 x15 a1_5 a1_6 a1_7
  replace h2 := h2 g6 a1_0 x8 a1_2 a1_3 a1_4 x15 a1_5 a1_6 a1_7
  refine ⟨fun z => ?_, fun z => ?_⟩
  · replace h1 := h1.1 z
    replace h2 := h2.1 z
    obtain ⟨P1, c1, h1⟩ := h1
    refine ⟨P1, c1, ?_⟩
    intro x22 a2_0 a2_1 g25 a2_2 a2_3
    replace h1 := h1 x22 a2_0 a2_1 g25 a2_2 a2_3
    replace h2 := h2 x22 a2_0 a2_1 g25 a2_2
    exact ⟨h1, h2⟩
  · replace h1 := h1.2 z
    replace h2 := h2.2 z
    intro x30 a2_0 g35 a2_1
    replace h1 := h1 x30 a2_0 g35 a2_1
    replace h2 := h2 x30 a2_0 g35 a2_1
    refine ⟨fun z => ?_, fun z => ?_⟩
    · replace h1 := h1.1 z
      replace h2 := h2.1 z
      obtain ⟨P1, c1, h1⟩ := h1
      refine ⟨P1, c1, ?_⟩
      intro x42 a3_0 a3_1 g45 a3_2 a3_3
      replace h1 := h1 x42 a3_0 a3_1 g45 a3_2 a3_3
      replace h2 := h2 x42 a3_0 a3_1 g45 a3_2
      exact ⟨h1, h2⟩
    · replace h1 := h1.2 z
      replace h2 := h2.2 z
      refine ⟨fun z => ?_, fun z => ?_⟩
      · replace h1 := h1.1 z
        replace h2 := h2.1 z
        obtain ⟨P1, c1, h1⟩ := h1
        refine ⟨P1, c1, ?_⟩
        intro x53 a4_0 a4_1 g56 a4_2 a4_3
        replace h1 := h1 x53 a4_0 a4_1 g56 a4_2 a4_3
        replace h2 := h2 x53 a4_0 a4_1 g56 a4_2
        exact ⟨h1, h2⟩
      · replace h1 := h1.2 z
        replace h2 := h2.2 z
        obtain ⟨P1, c1, h1⟩ := h1
        refine ⟨P1, c1, ?_⟩
        intro g63 a4_0 a4_1
        replace h1 := h1 g63 a4_0 a4_1
        replace h2 := h2 g63 a4_0
        obtain ⟨P1, c1, h1⟩ := h1
        obtain ⟨P2, c2, h2⟩ := h2
        refine ⟨fun v g => P1 v g ∧ P2 v g, cj_1291 c1 c2, ?_⟩
        intro x71 a4_0 a4_1 g74 a4_2 a4_3
        replace h1 := h1 x71 a4_0 a4_1 g74 a4_2 a4_3.1
        replace h2 := h2 x71 a4_0 a4_1 g74 a4_2 a4_3.2
        refine ⟨fun z => ?_, fun z => ?_⟩
        · replace h1 := h1.1 z
          replace h2 := h2.1 z
          intro x77 a5_0 a5_1 a5_2 x84 a5_3 a5_4 a5_5
          replace h1 := h1 x77 a5_0 a5_1 a5_2 x84 a5_3 a5_4 a5_5
          replace h2 := h2 x77 a5_0 a5_1 a5_2 x84 a5_3 a5_4 a5_5
          refine ⟨fun z => ?_, fun z => ?_⟩
          · replace h1 := h1.1 z
            replace h2 := h2.1 z
            obtain ⟨P1, c1, h1⟩ := h1
            refine ⟨P1, c1, ?_⟩
            intro x91 a6_0 a6_1 g94 a6_2 a6_3
            replace h1 := h1 x91 a6_0 a6_1 g94 a6_2 a6_3
            replace h2 := h2 x91 a6_0 a6_1 g94 a6_2
            exact ⟨h1, h2⟩
          · replace h1 := h1.2 z
            replace h2 := h2.2 z
            intro x99 a6_0 g104 a6_1
            replace h1 := h1 x99 a6_0 g104 a6_1
            replace h2 := h2 x99 a6_0 g104 a6_1
            refine ⟨fun z => ?_, fun z => ?_⟩
            · replace h1 := h1.1 z
              replace h2 := h2.1 z
              obtain ⟨P1, c1, h1⟩ := h1
              refine ⟨P1, c1, ?_⟩
              intro x111 a7_0 a7_1 g114 a7_2 a7_3
              replace h1 := h1 x111 a7_0 a7_1 g114 a7_2 a7_3
              replace h2 := h2 x111 a7_0 a7_1 g114 a7_2
              exact ⟨h1, h2⟩
            · replace h1 := h1.2 z
              replace h2 := h2.2 z
              refine ⟨fun z => ?_, fun z => ?_⟩
              · replace h1 := h1.1 z
                replace h2 := h2.1 z
                obtain ⟨P1, c1, h1⟩ := h1
                refine ⟨P1, c1, ?_⟩
                intro x122 a8_0 a8_1 g125 a8_2 a8_3
                replace h1 := h1 x122 a8_0 a8_1 g125 a8_2 a8_3
                replace h2 := h2 x122 a8_0 a8_1 g125 a8_2
                exact ⟨h1, h2⟩
              · replace h1 := h1.2 z
                replace h2 := h2.2 z
                obtain ⟨P1, c1, h1⟩ := h1
                refine ⟨P1, c1, ?_⟩
                intro g132 a8_0 a8_1 b134 a8_2 a8_3 g143 a8_4
                replace h1 := h1 g132 a8_0 a8_1 b134 a8_2 a8_3 g143 a8_4
                replace h2 := h2 g132 a8_0 b134 a8_2 a8_3 g143 a8_4
                exact ⟨h1, h2⟩
        · replace h1 := h1.2 z
          replace h2 := h2.2 z
          exact ⟨h1, h2⟩
set_option maxRecDepth 100000 in
def p_1295 (s0 : zF) (Q : Int → zF → Prop) : Prop :=
  ∀ b1 : Nat, (b1 : Int) = s0 (2) 8 → (b1 = 7 ∨ b1 = 28) → ∀ x5 : Int, x5 = s0 (b1) 2 → 0 ≤ x5 → x5 ≤ 6 → (x5 < 6 → ∀ g15 : zF, zFr [(2, 3, 7)] s0 g15 → ∃ P19 : Int → zF → Prop, p_1290 g15 P19 ∧ ∀ x22 : Int, 0 ≤ x22 → x22 ≤ 1 → ∀ g25 : zF, zFr [(2, 3, 0), (2, 3, 1), (2, 3, 7), (2, 3, 9)] g15 g25 → P19 x22 g25 → (¬ x22 = 0 → ∀ x29 : Int, x29 = g25 (2) 9 → ∀ g37 : zF, g37 = zup g25 (b1 + 7) x5.toNat x29 → ∃ P40 : Int → zF → Prop, p_1291 g37 15 P40 ∧ ∀ x43 : Int, 0 ≤ x43 → x43 ≤ 1 → ∀ g46 : zF, zFr [(2, 3, 0), (2, 3, 1), (2, 3, 7)] g37 g46 → P40 x43 g46 → (¬ x43 = 0 → ∃ P51 : Int → zF → Prop, p_1292 g46 1 999 P51 ∧ ∀ x54 : Int, 0 ≤ x54 → x54 ≤ 1 → ∀ g57 : zF, zFr [(2, 3, 0), (2, 3, 1), (2, 3, 10), (2, 3, 7)] g46 g57 → P51 x54 g57 → (¬ x54 = 0 → ∀ x61 : Int, x61 = g57 (2) 10 → ∀ g69 : zF, g69 = zup g57 (b1 + 8) x5.toNat x61 → ∃ P72 : Int → zF → Prop, p_1291 g69 16 P72 ∧ ∀ x75 : Int, 0 ≤ x75 → x75 ≤ 1 → ∀ g78 : zF, zFr [(2, 3, 0), (2, 3, 1), (2, 3, 7)] g69 g78 → P72 x75 g78 → (¬ x75 = 0 → ∃ P83 : Int → zF → Prop, p_1292 g78 1 60 P83 ∧ ∀ x86 : Int, 0 ≤ x86 → x86 ≤ 1 → ∀ g89 : zF, zFr [(2, 3, 0), (2, 3, 1), (2, 3, 10), (2, 3, 7)] g78 g89 → P83 x86 g89 → (¬ x86 = 0 → ∀ x93 : Int, x93 = g89 (2) 10 → ∀ g101 : zF, g101 = zup g89 (b1 + 9) x5.toNat x93 → ∃ P104 : Int → zF → Prop, p_1291 g101 17 P104 ∧ ∀ x107 : Int, 0 ≤ x107 → x107 ≤ 1 → ∀ g110 : zF, zFr [(2, 3, 0), (2, 3, 1), (2, 3, 7)] g101 g110 → P104 x107 g110 → (¬ x107 = 0 → ∃ P115 : Int → zF → Prop, p_1292 g110 1 999 P115 ∧ ∀ x118 : Int, 0 ≤ x118 → x118 ≤ 1 → ∀ g121 : zF, zFr [(2, 3, 0), (2, 3, 1), (2, 3, 10), (2, 3, 7)] g110 g121 → P115 x118 g121 → (¬ x118 = 0 → ∀ x125 : Int, x125 = g121 (2) 10 → ∀ g133 : zF, g133 = zup g121 (b1 + 10) x5.toNat x125 → ∃ P136 : Int → zF → Prop, p_1291 g133 8 P136 ∧ ∀ x139 : Int, 0 ≤ x139 → x139 ≤ 1 → ∀ g142 : zF, zFr [(2, 3, 0), (2, 3, 1), (2, 3, 7)] g133 g142 → P136 x139 g142 → (¬ x139 = 0 → ∃ P147 : Int → zF → Prop, p_1292 g142 1 99 P147 ∧ ∀ x150 : Int, 0 ≤ x150 → x150 ≤ 1 → ∀ g153 : zF, zFr [(2, 3, 0), (2, 3, 1), (2, 3, 10), (2, 3, 7)] g142 g153 → P147 x150 g153 → (¬ x150 = 0 → ∀ x157 : Int, x157 = g153 (2) 10 → ∀ g165 : zF, g165 = zup g153 (b1 + 11) x5.toNat x157 → ∀ x168 : Int, x168 = x5 + 1 → ∀ g174 : zF, g174 = zup g165 (b1) 2 x168 → Q 1 g174) ∧ (x150 = 0 → Q 0 g153)) ∧ (x139 = 0 → Q 0 g142)) ∧ (x118 = 0 → Q 0 g121)) ∧ (x107 = 0 → Q 0 g110)) ∧ (x86 = 0 → Q 0 g89)) ∧ (x75 = 0 → Q 0 g78)) ∧ (x54 = 0 → Q 0 g57)) ∧ (x43 = 0 → Q 0 g46)) ∧ (x22 = 0 → Q 0 g25)) ∧ (6 ≤ x5 → ∀ x180 : Int, 0 ≤ x180 → x180 ≤ 0 → ∀ g183 : zF, zFr [(2, 3, 0), (2, 3, 1)] s0 g183 → Q x180 g183)
set_option maxRecDepth 100000 in
theorem cj_1295 {s0 : zF} {Q1 Q2 : Int → zF → Prop} (h1 : b_1295 s0 Q1) (h2 : p_1295 s0 Q2) : b_1295 s0 (fun v g => Q1 v g ∧ Q2 v g) := by
  unfold b_1295 at h1 ⊢
  unfold p_1295 at h2
  intro b1 a1_0 a1_1 x5 a1_2 a1_3 a1_4
  replace h1 := h1 b1 a1_0 a1_1 x5 a1_2 a1_3 a1_4
  replace h2 := h2 b1 a1_0 a1_1 x5 a1_2 a1_3 a1_4
  refine ⟨fun z => ?_, fun z => ?_⟩
  · replace h1 := h1.1 z
    replace h2 := h2.1 z
    obtain ⟨P1, c1, h1⟩ := h1
    refine ⟨P1, c1, ?_⟩
    intro g15 a2_0 a2_1
    replace h1 := h1 g15 a2_0 a2_1
    replace h2 := h2 g15 a2_0
    obtain ⟨P1, c1, h1⟩ := h1
    obtain ⟨P2, c2, h2⟩ := h2
    refine ⟨fun v g => P1 v g ∧ P2 v g, cj_1290 c1 c2, ?_⟩
    intro x22 a2_0 a2_1 g25 a2_2 a2_3
    replace h1 := h1 x22 a2_0 a2_1 g25 a2_2 a2_3.1
    replace h2 := h2 x22 a2_0 a2_1 g25 a2_2 a2_3.2
    refine ⟨fun z => ?_, fun z => ?_⟩
    · replace h1 := h1.1 z
      replace h2 := h2.1 z
      intro x29 a3_0 g37 a3_1
      replace h1 := h1 x29 a3_0 g37 a3_1
      replace h2 := h2 x29 a3_0 g37 a3_1
      obtain ⟨P1, c1, h1⟩ := h1
      obtain ⟨P2, c2, h2⟩ := h2
      refine ⟨fun v g => P1 v g ∧ P2 v g, cj_1291 c1 c2, ?_⟩
      intro x43 a3_0 a3_1 g46 a3_2 a3_3
      replace h1 := h1 x43 a3_0 a3_1 g46 a3_2 a3_3.1
      replace h2 := h2 x43 a3_0 a3_1 g46 a3_2 a3_3.2
      refine ⟨fun z => ?_, fun z => ?_⟩
      · replace h1 := h1.1 z
        replace h2 := h2.1 z
        obtain ⟨P1, c1, h1⟩ := h1
        obtain ⟨P2, c2, h2⟩ := h2
        refine ⟨fun v g => P1 v g ∧ P2 v g, cj_1292 c1 c2, ?_⟩
        intro x54 a4_0 a4_1 g57 a4_2 a4_3
        replace h1 := h1 x54 a4_0 a4_1 g57 a4_2 a4_3.1
        replace h2 := h2 x54 a4_0 a4_1 g57 a4_2 a4_3.2
        refine ⟨fun z => ?_, fun z => ?_⟩
        · replace h1 := h1.1 z
          replace h2 := h2.1 z
          intro x61 a5_0 g69 a5_1
          replace h1 := h1 x61 a5_0 g69 a5_1
          replace h2 := h2 x61 a5_0 g69 a5_1
          obtain ⟨P1, c1, h1⟩ := h1
          obtain ⟨P2, c2, h2⟩ := h2
          refine ⟨fun v g => P1 v g ∧ P2 v g, cj_1291 c1 c2, ?_⟩
          intro x75 a5_0 a5_1 g78 a5_2 a5_3
          replace h1 := h1 x75 a5_0 a5_1 g78 a5_2 a5_3.1
          replace h2 := h2 x75 a5_0 a5_1 g78 a5_2 a5_3.2
          refine ⟨fun z => ?_, fun z => ?_⟩
          · replace h1 := h1.1 z
            replace h2 := h2.1 z
            obtain ⟨P1, c1, h1⟩ := h1
            obtain ⟨P2, c2, h2⟩ := h2
            refine ⟨fun v g => P1 v g ∧ P2 v g, cj_1292 c1 c2, ?_⟩
            intro x86 a6_0 a6_1 g89 a6_2 a6_3
            replace h1 := h1 x86 a6_0 a6_1 g89 a6_2 a6_3.1
            replace h2 := h2 x86 a6_0 a6_1 g89 a6_2 a6_3.2
            refine ⟨fun z => ?_, fun z => ?_⟩
            · replace h1 := h1.1 z
              replace h2 := h2.1 z
              intro x93 a7_0 g101 a7_1
              replace h1 := h1 x93 a7_0 g101 a7_1
              replace h2 := h2 x93 a7_0 g101 a7_1
              obtain ⟨P1, c1, h1⟩ := h1
              obtain ⟨P2, c2, h2⟩ := h2
              refine ⟨fun v g => P1 v g ∧ P2 v g, cj_1291 c1 c2, ?_⟩
              intro x107 a7_0 a7_1 g110 a7_2 a7_3
              replace h1 := h1 x107 a7_0 a7_1 g110 a7_2 a7_3.1
              replace h2 := h2 x107 a7_0 a7_1 g110 a7_2 a7_3.2
              refine ⟨fun z => ?_, fun z => ?_⟩
              · replace h1 := h1.1 z
                replace h2 := h2.1 z
                obtain ⟨P1, c1, h1⟩ := h1
                obtain ⟨P2, c2, h2⟩ := h2
                refine ⟨fun v g => P1 v g ∧ P2 v g, cj_1292 c1 c2, ?_⟩
                intro x118 a8_0 a8_1 g121 a8_2 a8_3
                replace h1 := h1 x118 a8_0 a8_1 g121 a8_2 a8_3.1
                replace h2 := h2 x118 a8_0 a8_1 g121 a8_2 a8_3.2
                refine ⟨fun z => ?_, fun z => ?_⟩
                · replace h1 := h1.1 z
                  replace h2 := h2.1 z
                  intro x125 a9_0 g133 a9_1
                  replace h1 := h1 x125 a9_0 g133 a9_1
                  replace h2 := h2 x125 a9_0 g133 a9_1
                  obtain ⟨P1, c1, h1⟩ := h1
                  obtain ⟨P2, c2, h2⟩ := h2
                  refine ⟨fun v g => P1 v g ∧ P2 v g, cj_1291 c1 c2, ?_⟩
                  intro x139 a9_0 a9_1 g142 a9_2 a9_3
                  replace h1 := h1 x139 a9_0 a9_1 g142 a9_2 a9_3.1
                  replace h2 := h2 x139 a9_0 a9_1 g142 a9_2 a9_3.2
                  refine ⟨fun z => ?_, fun z => ?_⟩
                  · replace h1 := h1.1 z
                    replace h2 := h2.1 z
                    obtain ⟨P1, c1, h1⟩ := h1
                    obtain ⟨P2, c2, h2⟩ := h2
                    refine ⟨fun v g => P1 v g ∧ P2 v g, cj_1292 c1 c2, ?_⟩
                    intro x150 a10_0 a10_1 g153 a10_2 a10_3
                    replace h1 := h1 x150 a10_0 a10_1 g153 a10_2 a10_3.1
                    replace h2 := h2 x150 a10_0 a10_1 g153 a10_2 a10_3.2
                    refine ⟨fun z => ?_, fun z => ?_⟩
                    · replace h1 := h1.1 z
                      replace h2 := h2.1 z
                      intro x157 a11_0 g165 a11_1 x168 a11_2 g174 a11_3
                      replace h1 := h1 x157 a11_0 g165 a11_1 x168 a11_2 g174 a11_3
                      replace h2 := h2 x157 a11_0 g165 a11_1 x168 a11_2 g174 a11_3
                      exact ⟨h1, h2⟩
                    · replace h1 := h1.2 z
                      replace h2 := h2.2 z
                      exact ⟨h1, h2⟩
                  · replace h1 := h1.2 z
                    replace h2 := h2.2 z
                    exact ⟨h1, h2⟩
                · replace h1 := h1.2 z
                  replace h2 := h2.2 z
                  exact ⟨h1, h2⟩
              · replace h1 := h1.2 z
                replace h2 := h2.2 z
                exact ⟨h1, h2⟩
            · replace h1 := h1.2 z
              replace h2 := h2.2 z
              exact ⟨h1, h2⟩
          · replace h1 := h1.2 z
            replace h2 := h2.2 z
            exact ⟨h1, h2⟩
        · replace h1 := h1.2 z
          replace h2 := h2.2 z
          exact ⟨h1, h2⟩
      · replace h1 := h1.2 z
        replace h2 := h2.2 z
        exact ⟨h1, h2⟩
    · replace h1 := h1.2 z
      replace h2 := h2.2 z
      exact ⟨h1, h2⟩
  · replace h1 := h1.2 z
    replace h2 := h2.2 z
    obtain ⟨P1, c1, h1⟩ := h1
    refine ⟨P1, c1, ?_⟩
    intro x180 a2_0 a2_1 g183 a2_2 a2_3
    replace h1 := h1 x180 a2_0 a2_1 g183 a2_2 a2_3
    replace h2 := h2 x180 a2_0 a2_1 g183 a2_2
    exact ⟨h1, h2⟩
set_option maxRecDepth 100000 in
def p_1298_c8 (s0 : zF) (Q : Int → zF → Prop) : Prop :=
  ∃ (I73 : zF → Int → Prop) (I85 : zF → Int → Prop) (I99 : zF → Int → Int → Prop),
    (∀ x41 : Int, x41 = s0 (2) 7 → 0 ≤ x41 → x41 ≤ 1600 → ∀ x48 : Int, x48 = s0 (4) x41.toNat → 0 ≤ x48 → x48 ≤ 5 → (¬ x48 = 4 → ∀ x55 : Int, (-1) ≤ x55 → x55 ≤ 26 → ∀ g58 : zF, zFr [] s0 g58 → (¬ x55 = (-1) → (x55 < 7 → ∀ b62 : Nat, (b62 : Int) = g58 (2) 8 → (b62 = 7 ∨ b62 = 28) → ∀ x66 : Int, x66 = (-1) - x55 → ∀ g73 : zF, zFr [(b62 + 13, b62 + 14, 1), (b62 + 14, b62 + 15, 1000)] g58 g73 → ∀ g80 : zF, zFr [(2, 3, 7)] g73 g80 → Q 1 g80) ∧ (7 ≤ x55 → I73 g58 x55)) ∧ (x55 = (-1) → I73 g58 x55)) ∧ (x48 = 4 → ∀ b82 : Nat, (b82 : Int) = s0 (2) 8 → (b82 = 7 ∨ b82 = 28) → ∀ x89 : Int, x89 = s0 (5) x41.toNat → ∀ g95 : zF, zFr [(b82 + 13, b82 + 14, 1), (b82 + 14, b82 + 15, 1000)] s0 g95 → ∀ g102 : zF, zFr [(2, 3, 7)] g95 g102 → Q 1 g102)) ∧
    (∀ (g : zF) (v73_2 : Int), zFr [(2, 3, 0), (2, 3, 1), (20, 21, 1), (41, 42, 1), (21, 22, 1000), (42, 43, 1000), (2, 3, 7)] s0 g → (-1) ≤ v73_2 → v73_2 ≤ 26 → I73 g v73_2 → (¬ v73_2 = 25 → (¬ v73_2 = 26 → I99 g v73_2 0) ∧ (v73_2 = 26 → I85 g v73_2)) ∧ (v73_2 = 25 → I85 g v73_2)) ∧
    (∀ (g : zF) (v85_2 : Int), zFr [(2, 3, 0), (2, 3, 1), (20, 21, 1), (41, 42, 1), (21, 22, 1000), (42, 43, 1000), (2, 3, 7)] s0 g → 25 ≤ v85_2 → v85_2 ≤ 26 → I85 g v85_2 → ∀ g8 : zF, zFr [(2, 3, 7)] g g8 → I99 g8 v85_2 1) ∧
    (∀ (g : zF) (v99_2 : Int) (v99_3 : Int), zFr [(2, 3, 0), (2, 3, 1), (20, 21, 1), (41, 42, 1), (21, 22, 1000), (42, 43, 1000), (2, 3, 7)] s0 g → (-1) ≤ v99_2 → v99_2 ≤ 26 → 0 ≤ v99_3 → v99_3 ≤ 1 → I99 g v99_2 v99_3 → ∀ x15 : Int, 0 ≤ x15 → x15 ≤ 1 → ∀ g18 : zF, zFr [] g g18 → (¬ x15 = 0 → ∀ x26 : Int, 0 ≤ x26 → x26 ≤ 0 → ∀ g29 : zF, zFr [(2, 3, 0), (2, 3, 1)] g18 g29 → Q x26 g29) ∧ (x15 = 0 → ∀ x36 : Int, 0 ≤ x36 → x36 ≤ 0 → ∀ g39 : zF, zFr [(2, 3, 0), (2, 3, 1)] g18 g39 → Q x36 g39))
set_option maxRecDepth 100000 in
theorem cj_1298_c8 {s0 : zF} {Q1 Q2 : Int → zF → Prop} (h1 : b_1298_c8 s0 Q1) (h2 : p_1298_c8 s0 Q2) : b_1298_c8 s0 (fun v g => Q1 v g ∧ Q2 v g) := by
  obtain ⟨I73, I85, I99, h1E, h1_0, h1_1, h1_2⟩ := h1
  obtain ⟨J73, J85, J99, h2E, h2_0, h2_1, h2_2⟩ := h2
  refine ⟨fun n g y0 => I73 n g y0 ∧ J73 g y0, fun n g y0 => I85 n g y0 ∧ J85 g y0, fun n g y0 y1 => I99 n g y0 y1 ∧ J99 g y0 y1, ?_, ?_, ?_, ?_⟩
  · have h1 := h1E
    have h2 := h2E
    clear h1E h2E h1_0 h2_0 h1_1 h2_1 h1_2 h2_2
    intro x41 a2_0 a2_1 a2_2 x48 a2_3 a2_4 a2_5
    replace h1 := h1 x41 a2_0 a2_1 a2_2 x48 a2_3 a2_4 a2_5
    replace h2 := h2 x41 a2_0 a2_1 a2_2 x48 a2_3 a2_4 a2_5
    refine ⟨fun z => ?_, fun z => ?_⟩
    · replace h1 := h1.1 z
      replace h2 := h2.1 z
      obtain ⟨P1, c1, h1⟩ := h1
      refine ⟨P1, c1, ?_⟩
      intro x55 a3_0 a3_1 g58 a3_2 a3_3
      replace h1 := h1 x55 a3_0 a3_1 g58 a3_2 a3_3
      replace h2 := h2 x55 a3_0 a3_1 g58 a3_2
      refine ⟨fun z => ?_, fun z => ?_⟩
      · replace h1 := h1.1 z
        replace h2 := h2.1 z
        refine ⟨fun z => ?_, fun z => ?_⟩
        · replace h1 := h1.1 z
          replace h2 := h2.1 z
          intro b62 a5_0 a5_1 x66 a5_2
          replace h1 := h1 b62 a5_0 a5_1 x66 a5_2
          replace h2 := h2 b62 a5_0 a5_1 x66 a5_2
          obtain ⟨P1, c1, h1⟩ := h1
          refine ⟨P1, c1, ?_⟩
          intro g73 a5_0 a5_1
          replace h1 := h1 g73 a5_0 a5_1
          replace h2 := h2 g73 a5_0
          obtain ⟨P1, c1, h1⟩ := h1
          refine ⟨P1, c1, ?_⟩
          intro g80 a5_0 a5_1
          replace h1 := h1 g80 a5_0 a5_1
          replace h2 := h2 g80 a5_0
          exact ⟨h1, h2⟩
        · replace h1 := h1.2 z
          replace h2 := h2.2 z
          obtain ⟨m, hi⟩ := h1
          exact ⟨m, hi, h2⟩
      · replace h1 := h1.2 z
        replace h2 := h2.2 z
        obtain ⟨m, hi⟩ := h1
        exact ⟨m, hi, h2⟩
    · replace h1 := h1.2 z
      replace h2 := h2.2 z
      intro b82 a3_0 a3_1 x89 a3_2
      replace h1 := h1 b82 a3_0 a3_1 x89 a3_2
      replace h2 := h2 b82 a3_0 a3_1 x89 a3_2
      obtain ⟨P1, c1, h1⟩ := h1
      refine ⟨P1, c1, ?_⟩
      intro g95 a3_0 a3_1
      replace h1 := h1 g95 a3_0 a3_1
      replace h2 := h2 g95 a3_0
      obtain ⟨P1, c1, h1⟩ := h1
      refine ⟨P1, c1, ?_⟩
      intro g102 a3_0 a3_1
      replace h1 := h1 g102 a3_0 a3_1
      replace h2 := h2 g102 a3_0
      exact ⟨h1, h2⟩
  · intro n g v73_2 e0 e1 e2 hI
    have h1 := h1_0 n g v73_2 e0 e1 e2 hI.1
    have h2 := h2_0 g v73_2 e0 e1 e2 hI.2
    clear h1E h2E hI h1_0 h2_0 h1_1 h2_1 h1_2 h2_2
    refine ⟨fun z => ?_, fun z => ?_⟩
    · replace h1 := h1.1 z
      replace h2 := h2.1 z
      refine ⟨fun z => ?_, fun z => ?_⟩
      · replace h1 := h1.1 z
        replace h2 := h2.1 z
        obtain ⟨m, hm, hi⟩ := h1
        exact ⟨m, hm, hi, h2⟩
      · replace h1 := h1.2 z
        replace h2 := h2.2 z
        obtain ⟨m, hm, hi⟩ := h1
        exact ⟨m, hm, hi, h2⟩
    · replace h1 := h1.2 z
      replace h2 := h2.2 z
      obtain ⟨m, hm, hi⟩ := h1
      exact ⟨m, hm, hi, h2⟩
  · intro n g v85_2 e0 e1 e2 hI
    have h1 := h1_1 n g v85_2 e0 e1 e2 hI.1
    have h2 := h2_1 g v85_2 e0 e1 e2 hI.2
    clear h1E h2E hI h1_0 h2_0 h1_1 h2_1 h1_2 h2_2
    obtain ⟨P1, c1, h1⟩ := h1
    refine ⟨P1, c1, ?_⟩
    intro g8 a2_0 a2_1
    replace h1 := h1 g8 a2_0 a2_1
    replace h2 := h2 g8 a2_0
    obtain ⟨m, hm, hi⟩ := h1
    exact ⟨m, hm, hi, h2⟩
  · intro n g v99_2 v99_3 e0 e1 e2 e3 e4 hI
    have h1 := h1_2 n g v99_2 v99_3 e0 e1 e2 e3 e4 hI.1
    have h2 := h2_2 g v99_2 v99_3 e0 e1 e2 e3 e4 hI.2
    clear h1E h2E hI h1_0 h2_0 h1_1 h2_1 h1_2 h2_2
    obtain ⟨P1, c1, h1⟩ := h1
    refine ⟨P1, c1, ?_⟩
    intro x15 a2_0 a2_1 g18 a2_2 a2_3
    replace h1 := h1 x15 a2_0 a2_1 g18 a2_2 a2_3
    replace h2 := h2 x15 a2_0 a2_1 g18 a2_2
    refine ⟨fun z => ?_, fun z => ?_⟩
    · replace h1 := h1.1 z
      replace h2 := h2.1 z
      obtain ⟨P1, c1, h1⟩ := h1
      refine ⟨P1, c1, ?_⟩
      intro x26 a3_0 a3_1 g29 a3_2 a3_3
      replace h1 := h1 x26 a3_0 a3_1 g29 a3_2 a3_3
      replace h2 := h2 x26 a3_0 a3_1 g29 a3_2
      exact ⟨h1, h2⟩
    · replace h1 := h1.2 z
      replace h2 := h2.2 z
      obtain ⟨P1, c1, h1⟩ := h1
      refine ⟨P1, c1, ?_⟩
      intro x36 a3_0 a3_1 g39 a3_2 a3_3
      replace h1 := h1 x36 a3_0 a3_1 g39 a3_2 a3_3
      replace h2 := h2 x36 a3_0 a3_1 g39 a3_2
      exact ⟨h1, h2⟩
set_option maxRecDepth 100000 in
def p_1297_c8 (s0 : zF) (Q : Int → zF → Prop) : Prop :=
  ∃ (I4 : zF → Int → Int → Prop) (I17 : zF → Int → Int → Int → Int → Prop) (I52 : zF → Int → Int → Int → Prop) (I95 : zF → Int → Int → Int → Int → Prop) (I115 : zF → Int → Int → Prop) (I130 : zF → Int → Prop),
    (I4 s0 0 0) ∧
    (∀ (g : zF) (v4_2 : Int) (v4_3 : Int), zFr [(2, 3, 0), (2, 3, 1), (20, 21, 1), (41, 42, 1), (21, 22, 1000), (42, 43, 1000), (2, 3, 7)] s0 g → (-13) ≤ v4_2 → v4_2 ≤ 0 → 0 ≤ v4_3 → v4_3 ≤ 1601 → I4 g v4_2 v4_3 → (1600 < v4_3 → Q 1 g) ∧ (v4_3 ≤ 1600 → I17 g v4_2 v4_3 0 0)) ∧
    (∀ (g : zF) (v17_2 : Int) (v17_3 : Int) (v17_4 : Int) (v17_5 : Int), zFr [(2, 3, 0), (2, 3, 1), (20, 21, 1), (41, 42, 1), (21, 22, 1000), (42, 43, 1000), (2, 3, 7)] s0 g → v17_2 ≤ 0 → 0 ≤ v17_3 → v17_3 ≤ 1600 → (-11) ≤ v17_4 → v17_4 ≤ 0 → 0 ≤ v17_5 → v17_5 ≤ 1601 → I17 g v17_2 v17_3 v17_4 v17_5 → (1600 < v17_5 → I115 g v17_2 v17_3) ∧ (v17_5 ≤ 1600 → ∃ P5 : Int → zF → Prop, p_1298_c8 g P5 ∧ ∀ x8 : Int, 0 ≤ x8 → x8 ≤ 1 → ∀ g11 : zF, zFr [(2, 3, 0), (2, 3, 1), (20, 21, 1), (41, 42, 1), (21, 22, 1000), (42, 43, 1000), (2, 3, 7)] g g11 → P5 x8 g11 → (¬ x8 = 0 → (¬ v17_4 = 0 → ∀ b15 : Nat, (b15 : Int) = g11 (2) 8 → (b15 = 7 ∨ b15 = 28) → ∀ g24 : zF, zFr [(b15 + 13, b15 + 14, 1), (b15 + 14, b15 + 15, 1000)] g11 g24 → I52 g24 v17_2 v17_3 v17_5) ∧ (v17_4 = 0 → I52 g11 v17_2 v17_3 v17_5)) ∧ (x8 = 0 → Q 0 g11))) ∧
    (∀ (g : zF) (v52_2 : Int) (v52_3 : Int) (v52_5 : Int), zFr [(2, 3, 0), (2, 3, 1), (20, 21, 1), (41, 42, 1), (21, 22, 1000), (42, 43, 1000), (2, 3, 7)] s0 g → v52_2 ≤ 0 → 0 ≤ v52_3 → v52_3 ≤ 1600 → 0 ≤ v52_5 → v52_5 ≤ 1600 → I52 g v52_2 v52_3 v52_5 → ∀ x31 : Int, 0 ≤ x31 → x31 ≤ 1 → ∀ g34 : zF, zFr [] g g34 → (¬ x31 = 0 → I95 g34 v52_2 v52_3 v52_5 (-9)) ∧ (x31 = 0 → ∀ x42 : Int, 0 ≤ x42 → x42 ≤ 1 → ∀ g45 : zF, zFr [] g34 g45 → (¬ x42 = 0 → I95 g45 v52_2 v52_3 v52_5 (-10)) ∧ (x42 = 0 → ∀ x53 : Int, 0 ≤ x53 → x53 ≤ 1 → ∀ g56 : zF, zFr [] g45 g56 → (¬ x53 = 0 → I95 g56 v52_2 v52_3 v52_5 (-11)) ∧ (x53 = 0 → I95 g56 v52_2 v52_3 v52_5 0)))) ∧
    (∀ (g : zF) (v95_2 : Int) (v95_3 : Int) (v95_5 : Int) (s95_0 : Int), zFr [(2, 3, 0), (2, 3, 1), (20, 21, 1), (41, 42, 1), (21, 22, 1000), (42, 43, 1000), (2, 3, 7)] s0 g → v95_2 ≤ 0 → 0 ≤ v95_3 → v95_3 ≤ 1600 → 0 ≤ v95_5 → v95_5 ≤ 1600 → (-11) ≤ s95_0 → s95_0 ≤ 0 → I95 g v95_2 v95_3 v95_5 s95_0 → (¬ s95_0 = 0 → ∀ g65 : zF, zFr [(2, 3, 7)] g g65 → ∀ x67 : Int, x67 = v95_5 + 1 → I17 g65 v95_2 v95_3 s95_0 x67) ∧ (s95_0 = 0 → I115 g v95_2 v95_3)) ∧
    (∀ (g : zF) (v115_2 : Int) (v115_3 : Int), zFr [(2, 3, 0), (2, 3, 1), (20, 21, 1), (41, 42, 1), (21, 22, 1000), (42, 43, 1000), (2, 3, 7)] s0 g → v115_2 ≤ 0 → 0 ≤ v115_3 → v115_3 ≤ 1600 → I115 g v115_2 v115_3 → (¬ v115_2 = 0 → ∀ b70 : Nat, (b70 : Int) = g (2) 8 → (b70 = 7 ∨ b70 = 28) → ∀ g79 : zF, zFr [(b70 + 13, b70 + 14, 1), (b70 + 14, b70 + 15, 1000)] g g79 → I130 g79 v115_3) ∧ (v115_2 = 0 → I130 g v115_3)) ∧
    (∀ (g : zF) (v130_3 : Int), zFr [(2, 3, 0), (2, 3, 1), (20, 21, 1), (41, 42, 1), (21, 22, 1000), (42, 43, 1000), (2, 3, 7)] s0 g → 0 ≤ v130_3 → v130_3 ≤ 1600 → I130 g v130_3 → ∀ x86 : Int, 0 ≤ x86 → x86 ≤ 1 → ∀ g89 : zF, zFr [] g g89 → (¬ x86 = 0 → ∀ g97 : zF, zFr [(2, 3, 7)] g89 g97 → ∀ x99 : Int, x99 = v130_3 + 1 → I4 g97 (-12) x99) ∧ (x86 = 0 → ∀ x106 : Int, 0 ≤ x106 → x106 ≤ 1 → ∀ g109 : zF, zFr [] g89 g109 → (¬ x106 = 0 → ∀ g117 : zF, zFr [(2, 3, 7)] g109 g117 → ∀ x119 : Int, x119 = v130_3 + 1 → I4 g117 (-13) x119) ∧ (x106 = 0 → Q 1 g109)))
set_option maxRecDepth 100000 in
theorem cj_1297_c8 {s0 : zF} {Q1 Q2 : Int → zF → Prop} (h1 : b_1297_c8 s0 Q1) (h2 : p_1297_c8 s0 Q2) : b_1297_c8 s0 (fun v g => Q1 v g ∧ Q2 v g) := by
  obtain ⟨I4, I17, I52, I95, I115, I130, h1E, h1_0, h1_1, h1_2, h1_3, h1_4, h1_5⟩ := h1
  obtain ⟨J4, J17, J52, J95, J115, J130, h2E, h2_0, h2_1, h2_2, h2_3, h2_4, h2_5⟩ := h2
  refine ⟨fun n g y0 y1 => I4 n g y0 y1 ∧ J4 g y0 y1, fun n g y0 y1 y2 y3 => I17 n g y0 y1 y2 y3 ∧ J17 g y0 y1 y2 y3, fun n g y0 y1 y2 => I52 n g y0 y1 y2 ∧ J52 g y0 y1 y2, fun n g y0 y1 y2 y3 => I95 n g y0 y1 y2 y3 ∧ J95 g y0 y1 y2 y3, fun n g y0 y1 => I115 n g y0 y1 ∧ J115 g y0 y1, fun n g y0 => I130 n g y0 ∧ J130 g y0, ?_, ?_, ?_, ?_, ?_, ?_, ?_⟩
  · have h1 := h1E
    have h2 := h2E
    clear h1E h2E h1_0 h2_0 h1_1 h2_1 h1_2 h2_2 h1_3 h2_3 h1_4 h2_4 h1_5 h2_5
    obtain ⟨m, hi⟩ := h1
    exact ⟨m, hi, h2⟩
  · intro n g v4_2 v4_3 e0 e1 e2 e3 e4 hI
    have h1 := h1_0 n g v4_2 v4_3 e0 e1 e2 e3 e4 hI.1
    have h2 := h2_0 g v4_2 v4_3 e0 e1 e2 e3 e4 hI.2
    clear h1E h2E hI h1_0 h2_0 h1_1 h2_1 h1_2 h2_2 h1_3 h2_3 h1_4 h2_4 h1_5 h2_5
    refine ⟨fun z => ?_, fun z => ?_⟩
    · replace h1 := h1.1 z
      replace h2 := h2.1 z
      exact ⟨h1, h2⟩
    · replace h1 := h1.2 z
      replace h2 := h2.2 z
      obtain ⟨m, hm, hi⟩ := h1
      exact ⟨m, hm, hi, h2⟩
  · intro n g v17_2 v17_3 v17_4 v17_5 e0 e1 e2 e3 e4 e5 e6 e7 hI
    have h1 := h1_1 n g v17_2 v17_3 v17_4 v17_5 e0 e1 e2 e3 e4 e5 e6 e7 hI.1
    have h2 := h2_1 g v17_2 v17_3 v17_4 v17_5 e0 e1 e2 e3 e4 e5 e6 e7 hI.2
    clear h1E h2E hI h1_0 h2_0 h1_1 h2_1 h1_2 h2_2 h1_3 h2_3 h1_4 h2_4 h1_5 h2_5
    refine ⟨fun z => ?_, fun z => ?_⟩
    · replace h1 := h1.1 z
      replace h2 := h2.1 z
      obtain ⟨m, hm, hi⟩ := h1
      exact ⟨m, hm, hi, h2⟩
    · replace h1 := h1.2 z
      replace h2 := h2.2 z
      obtain ⟨P1, c1, h1⟩ := h1
      obtain ⟨P2, c2, h2⟩ := h2
      refine ⟨fun v g => P1 v g ∧ P2 v g, cj_1298_c8 c1 c2, ?_⟩
      intro x8 a3_0 a3_1 g11 a3_2 a3_3
      replace h1 := h1 x8 a3_0 a3_1 g11 a3_2 a3_3.1
      replace h2 := h2 x8 a3_0 a3_1 g11 a3_2 a3_3.2
      refine ⟨fun z => ?_, fun z => ?_⟩
      · replace h1 := h1.1 z
        replace h2 := h2.1 z
        refine ⟨fun z => ?_, fun z => ?_⟩
        · replace h1 := h1.1 z
          replace h2 := h2.1 z
          intro b15 a5_0 a5_1
          replace h1 := h1 b15 a5_0 a5_1
          replace h2 := h2 b15 a5_0 a5_1
          obtain ⟨P1, c1, h1⟩ := h1
          refine ⟨P1, c1, ?_⟩
          intro g24 a5_0 a5_1
          replace h1 := h1 g24 a5_0 a5_1
          replace h2 := h2 g24 a5_0
          obtain ⟨m, hm, hi⟩ := h1
          exact ⟨m, hm, hi, h2⟩
        · replace h1 := h1.2 z
          replace h2 := h2.2 z
          obtain ⟨m, hm, hi⟩ := h1
          exact ⟨m, hm, hi, h2⟩
      · replace h1 := h1.2 z
        replace h2 := h2.2 z
        exact ⟨h1, h2⟩
  · intro n g v52_2 v52_3 v52_5 e0 e1 e2 e3 e4 e5 hI
    have h1 := h1_2 n g v52_2 v52_3 v52_5 e0 e1 e2 e3 e4 e5 hI.1
    have h2 := h2_2 g v52_2 v52_3 v52_5 e0 e1 e2 e3 e4 e5 hI.2
    clear h1E h2E hI h1_0 h2_0 h1_1 h2_1 h1_2 h2_2 h1_3 h2_3 h1_4 h2_4 h1_5 h2_5
    obtain ⟨P1, c1, h1⟩ := h1
    refine ⟨P1, c1, ?_⟩
    intro x31 a2_0 a2_1 g34 a2_2 a2_3
    replace h1 := h1 x31 a2_0 a2_1 g34 a2_2 a2_3
    replace h2 := h2 x31 a2_0 a2_1 g34 a2_2
    refine ⟨fun z => ?_, fun z => ?_⟩
    · replace h1 := h1.1 z
      replace h2 := h2.1 z
      obtain ⟨m, hm, hi⟩ := h1
      exact ⟨m, hm, hi, h2⟩
    · replace h1 := h1.2 z
      replace h2 := h2.2 z
      obtain ⟨P1, c1, h1⟩ := h1
      refine ⟨P1, c1, ?_⟩
      intro x42 a3_0 a3_1 g45 a3_2 a3_3
      replace h1 := h1 x42 a3_0 a3_1 g45 a3_2 a3_3
      replace h2 := h2 x42 a3_0 a3_1 g45 a3_2
      refine ⟨fun z => ?_, fun z => ?_⟩
      · replace h1 := h1.1 z
        replace h2 := h2.1 z
        obtain ⟨m, hm, hi⟩ := h1
        exact ⟨m, hm, hi, h2⟩
      · replace h1 := h1.2 z
        replace h2 := h2.2 z
        obtain ⟨P1, c1, h1⟩ := h1
        refine ⟨P1, c1, ?_⟩
        intro x53 a4_0 a4_1 g56 a4_2 a4_3
        replace h1 := h1 x53 a4_0 a4_1 g56 a4_2 a4_3
        replace h2 := h2 x53 a4_0 a4_1 g56 a4_2
        refine ⟨fun z => ?_, fun z => ?_⟩
        · replace h1 := h1.1 z
          replace h2 := h2.1 z
          obtain ⟨m, hm, hi⟩ := h1
          exact ⟨m, hm, hi, h2⟩
        · replace h1 := h1.2 z
          replace h2 := h2.2 z
          obtain ⟨m, hm, hi⟩ := h1
          exact ⟨m, hm, hi, h2⟩
  · intro n g v95_2 v95_3 v95_5 s95_0 e0 e1 e2 e3 e4 e5 e6 e7 hI
    have h1 := h1_3 n g v95_2 v95_3 v95_5 s95_0 e0 e1 e2 e3 e4 e5 e6 e7 hI.1
    have h2 := h2_3 g v95_2 v95_3 v95_5 s95_0 e0 e1 e2 e3 e4 e5 e6 e7 hI.2
    clear h1E h2E hI h1_0 h2_0 h1_1 h2_1 h1_2 h2_2 h1_3 h2_3 h1_4 h2_4 h1_5 h2_5
    refine ⟨fun z => ?_, fun z => ?_⟩
    · replace h1 := h1.1 z
      replace h2 := h2.1 z
      obtain ⟨P1, c1, h1⟩ := h1
      refine ⟨P1, c1, ?_⟩
      intro g65 a3_0 a3_1 x67 a3_2
      replace h1 := h1 g65 a3_0 a3_1 x67 a3_2
      replace h2 := h2 g65 a3_0 x67 a3_2
      obtain ⟨m, hm, hi⟩ := h1
      exact ⟨m, hm, hi, h2⟩
    · replace h1 := h1.2 z
      replace h2 := h2.2 z
      obtain ⟨m, hm, hi⟩ := h1
      exact ⟨m, hm, hi, h2⟩
  · intro n g v115_2 v115_3 e0 e1 e2 e3 hI
    have h1 := h1_4 n g v115_2 v115_3 e0 e1 e2 e3 hI.1
    have h2 := h2_4 g v115_2 v115_3 e0 e1 e2 e3 hI.2
    clear h1E h2E hI h1_0 h2_0 h1_1 h2_1 h1_2 h2_2 h1_3 h2_3 h1_4 h2_4 h1_5 h2_5
    refine ⟨fun z => ?_, fun z => ?_⟩
    · replace h1 := h1.1 z
      replace h2 := h2.1 z
      intro b70 a3_0 a3_1
      replace h1 := h1 b70 a3_0 a3_1
      replace h2 := h2 b70 a3_0 a3_1
      obtain ⟨P1, c1, h1⟩ := h1
      refine ⟨P1, c1, ?_⟩
      intro g79 a3_0 a3_1
      replace h1 := h1 g79 a3_0 a3_1
      replace h2 := h2 g79 a3_0
      obtain ⟨m, hm, hi⟩ := h1
      exact ⟨m, hm, hi, h2⟩
    · replace h1 := h1.2 z
      replace h2 := h2.2 z
      obtain ⟨m, hm, hi⟩ := h1
      exact ⟨m, hm, hi, h2⟩
  · intro n g v130_3 e0 e1 e2 hI
    have h1 := h1_5 n g v130_3 e0 e1 e2 hI.1
    have h2 := h2_5 g v130_3 e0 e1 e2 hI.2
    clear h1E h2E hI h1_0 h2_0 h1_1 h2_1 h1_2 h2_2 h1_3 h2_3 h1_4 h2_4 h1_5 h2_5
    obtain ⟨P1, c1, h1⟩ := h1
    refine ⟨P1, c1, ?_⟩
    intro x86 a2_0 a2_1 g89 a2_2 a2_3
    replace h1 := h1 x86 a2_0 a2_1 g89 a2_2 a2_3
    replace h2 := h2 x86 a2_0 a2_1 g89 a2_2
    refine ⟨fun z => ?_, fun z => ?_⟩
    · replace h1 := h1.1 z
      replace h2 := h2.1 z
      obtain ⟨P1, c1, h1⟩ := h1
      refine ⟨P1, c1, ?_⟩
      intro g97 a3_0 a3_1 x99 a3_2
      replace h1 := h1 g97 a3_0 a3_1 x99 a3_2
      replace h2 := h2 g97 a3_0 x99 a3_2
      obtain ⟨m, hm, hi⟩ := h1
      exact ⟨m, hm, hi, h2⟩
    · replace h1 := h1.2 z
      replace h2 := h2.2 z
      obtain ⟨P1, c1, h1⟩ := h1
      refine ⟨P1, c1, ?_⟩
      intro x106 a3_0 a3_1 g109 a3_2 a3_3
      replace h1 := h1 x106 a3_0 a3_1 g109 a3_2 a3_3
      replace h2 := h2 x106 a3_0 a3_1 g109 a3_2
      refine ⟨fun z => ?_, fun z => ?_⟩
      · replace h1 := h1.1 z
        replace h2 := h2.1 z
        obtain ⟨P1, c1, h1⟩ := h1
        refine ⟨P1, c1, ?_⟩
        intro g117 a4_0 a4_1 x119 a4_2
        replace h1 := h1 g117 a4_0 a4_1 x119 a4_2
        replace h2 := h2 g117 a4_0 x119 a4_2
        obtain ⟨m, hm, hi⟩ := h1
        exact ⟨m, hm, hi, h2⟩
      · replace h1 := h1.2 z
        replace h2 := h2.2 z
        exact ⟨h1, h2⟩
set_option maxRecDepth 100000 in
def p_1298_c7 (s0 : zF) (Q : Int → zF → Prop) : Prop :=
  ∃ (I73 : zF → Int → Prop) (I85 : zF → Int → Prop) (I99 : zF → Int → Int → Prop),
    (∀ x192 : Int, x192 = s0 (2) 7 → 0 ≤ x192 → x192 ≤ 1600 → ∀ x199 : Int, x199 = s0 (4) x192.toNat → 0 ≤ x199 → x199 ≤ 5 → (¬ x199 = 4 → ∀ x206 : Int, (-1) ≤ x206 → x206 ≤ 26 → ∀ g209 : zF, zFr [] s0 g209 → (¬ x206 = (-1) → (x206 < 7 → ∀ b213 : Nat, (b213 : Int) = g209 (2) 8 → (b213 = 7 ∨ b213 = 28) → ∀ x217 : Int, x217 = (-1) - x206 → ∀ g224 : zF, zFr [(b213 + 13, b213 + 14, 1), (b213 + 14, b213 + 15, 1000)] g209 g224 → ∀ g231 : zF, zFr [(2, 3, 7)] g224 g231 → Q 1 g231) ∧ (7 ≤ x206 → I73 g209 x206)) ∧ (x206 = (-1) → I73 g209 x206)) ∧ (x199 = 4 → ∀ b233 : Nat, (b233 : Int) = s0 (2) 8 → (b233 = 7 ∨ b233 = 28) → ∀ x240 : Int, x240 = s0 (5) x192.toNat → ∀ g246 : zF, zFr [(b233 + 13, b233 + 14, 1), (b233 + 14, b233 + 15, 1000)] s0 g246 → ∀ g253 : zF, zFr [(2, 3, 7)] g246 g253 → Q 1 g253)) ∧
    (∀ (g : zF) (v73_2 : Int), zFr [(2, 3, 0), (2, 3, 1), (20, 21, 1), (41, 42, 1), (21, 22, 1000), (42, 43, 1000), (2, 3, 7)] s0 g → (-1) ≤ v73_2 → v73_2 ≤ 26 → I73 g v73_2 → (¬ v73_2 = 25 → (¬ v73_2 = 26 → I99 g v73_2 0) ∧ (v73_2 = 26 → I85 g v73_2)) ∧ (v73_2 = 25 → I85 g v73_2)) ∧
    (∀ (g : zF) (v85_2 : Int), zFr [(2, 3, 0), (2, 3, 1), (20, 21, 1), (41, 42, 1), (21, 22, 1000), (42, 43, 1000), (2, 3, 7)] s0 g → 25 ≤ v85_2 → v85_2 ≤ 26 → I85 g v85_2 → ∀ g8 : zF, zFr [(2, 3, 7)] g g8 → I99 g8 v85_2 1) ∧
    (∀ (g : zF) (v99_2 : Int) (v99_3 : Int), zFr [(2, 3, 0), (2, 3, 1), (20, 21, 1), (41, 42, 1), (21, 22, 1000), (42, 43, 1000), (2, 3, 7)] s0 g → (-1) ≤ v99_2 → v99_2 ≤ 26 → 0 ≤ v99_3 → v99_3 ≤ 1 → I99 g v99_2 v99_3 → ∀ x15 : Int, 0 ≤ x15 → x15 ≤ 1 → ∀ g18 : zF, zFr [] g g18 → (¬ x15 = 0 → ∀ g26 : zF, zFr [(2, 3, 7)] g18 g26 → ∃ P30 : Int → zF → Prop, p_1297_c8 g26 P30 ∧ ∀ x33 : Int, 0 ≤ x33 → x33 ≤ 1 → ∀ g36 : zF, zFr [(2, 3, 0), (2, 3, 1), (20, 21, 1), (41, 42, 1), (21, 22, 1000), (42, 43, 1000), (2, 3, 7)] g26 g36 → P30 x33 g36 → (¬ x33 = 0 → (¬ v99_3 = 0 → ∀ x45 : Int, 0 ≤ x45 → x45 ≤ 1 → ∀ g48 : zF, zFr [] g36 g48 → (¬ x45 = 0 → ∀ g56 : zF, zFr [(2, 3, 7)] g48 g56 → ∃ P60 : Int → zF → Prop, p_1297_c8 g56 P60 ∧ ∀ x63 : Int, 0 ≤ x63 → x63 ≤ 1 → ∀ g66 : zF, zFr [(2, 3, 0), (2, 3, 1), (20, 21, 1), (41, 42, 1), (21, 22, 1000), (42, 43, 1000), (2, 3, 7)] g56 g66 → P60 x63 g66 → (¬ x63 = 0 → ∀ b69 : Nat, (b69 : Int) = g66 (2) 8 → (b69 = 7 ∨ b69 = 28) → (¬ v99_2 = 25 → ∀ g79 : zF, zFr [(b69 + 13, b69 + 14, 1), (b69 + 14, b69 + 15, 1000)] g66 g79 → ∀ x86 : Int, 0 ≤ x86 → x86 ≤ 1 → ∀ g89 : zF, zFr [] g79 g89 → (¬ x86 = 0 → ∀ g97 : zF, zFr [(2, 3, 7)] g89 g97 → Q 1 g97) ∧ (x86 = 0 → ∀ x104 : Int, 0 ≤ x104 → x104 ≤ 0 → ∀ g107 : zF, zFr [(2, 3, 0), (2, 3, 1)] g89 g107 → Q x104 g107)) ∧ (v99_2 = 25 → ∀ g114 : zF, zFr [(b69 + 13, b69 + 14, 1), (b69 + 14, b69 + 15, 1000)] g66 g114 → ∀ x121 : Int, 0 ≤ x121 → x121 ≤ 1 → ∀ g124 : zF, zFr [] g114 g124 → (¬ x121 = 0 → ∀ g132 : zF, zFr [(2, 3, 7)] g124 g132 → Q 1 g132) ∧ (x121 = 0 → ∀ x139 : Int, 0 ≤ x139 → x139 ≤ 0 → ∀ g142 : zF, zFr [(2, 3, 0), (2, 3, 1)] g124 g142 → Q x139 g142))) ∧ (x63 = 0 → Q 0 g66)) ∧ (x45 = 0 → ∀ x149 : Int, 0 ≤ x149 → x149 ≤ 0 → ∀ g152 : zF, zFr [(2, 3, 0), (2, 3, 1)] g48 g152 → Q x149 g152)) ∧ (v99_3 = 0 → ∀ x159 : Int, 0 ≤ x159 → x159 ≤ 1 → ∀ g162 : zF, zFr [] g36 g162 → (¬ x159 = 0 → ∀ g170 : zF, zFr [(2, 3, 7)] g162 g170 → Q 1 g170) ∧ (x159 = 0 → ∀ x177 : Int, 0 ≤ x177 → x177 ≤ 0 → ∀ g180 : zF, zFr [(2, 3, 0), (2, 3, 1)] g162 g180 → Q x177 g180))) ∧ (x33 = 0 → Q 0 g36)) ∧ (x15 = 0 → ∀ x187 : Int, 0 ≤ x187 → x187 ≤ 0 → ∀ g190 : zF, zFr [(2, 3, 0), (2, 3, 1)] g18 g190 → Q x187 g190))
set_option maxRecDepth 100000 in
theorem cj_1298_c7 {s0 : zF} {Q1 Q2 : Int → zF → Prop} (h1 : b_1298_c7 s0 Q1) (h2 : p_1298_c7 s0 Q2) : b_1298_c7 s0 (fun v g => Q1 v g ∧ Q2 v g) := by
  obtain ⟨I73, I85, I99, h1E, h1_0, h1_1, h1_2⟩ := h1
  obtain ⟨J73, J85, J99, h2E, h2_0, h2_1, h2_2⟩ := h2
  refine ⟨fun n g y0 => I73 n g y0 ∧ J73 g y0, fun n g y0 => I85 n g y0 ∧ J85 g y0, fun n g y0 y1 => I99 n g y0 y1 ∧ J99 g y0 y1, ?_, ?_, ?_, ?_⟩
  · have h1 := h1E
    have h2 := h2E
    clear h1E h2E h1_0 h2_0 h1_1 h2_1 h1_2 h2_2
    intro x192 a2_0 a2_1 a2_2 x199 a2_3 a2_4 a2_5
    replace h1 := h1 x192 a2_0 a2_1 a2_2 x199 a2_3 a2_4 a2_5
    replace h2 := h2 x192 a2_0 a2_1 a2_2 x199 a2_3 a2_4 a2_5
    refine ⟨fun z => ?_, fun z => ?_⟩
    · replace h1 := h1.1 z
      replace h2 := h2.1 z
      obtain ⟨P1, c1, h1⟩ := h1
      refine ⟨P1, c1, ?_⟩
      intro x206 a3_0 a3_1 g209 a3_2 a3_3
      replace h1 := h1 x206 a3_0 a3_1 g209 a3_2 a3_3
      replace h2 := h2 x206 a3_0 a3_1 g209 a3_2
      refine ⟨fun z => ?_, fun z => ?_⟩
      · replace h1 := h1.1 z
        replace h2 := h2.1 z
        refine ⟨fun z => ?_, fun z => ?_⟩
        · replace h1 := h1.1 z
          replace h2 := h2.1 z
          intro b213 a5_0 a5_1 x217 a5_2
          replace h1 := h1 b213 a5_0 a5_1 x217 a5_2
          replace h2 := h2 b213 a5_0 a5_1 x217 a5_2
          obtain ⟨P1, c1, h1⟩ := h1
          refine ⟨P1, c1, ?_⟩
          intro g224 a5_0 a5_1
          replace h1 := h1 g224 a5_0 a5_1
          replace h2 := h2 g224 a5_0
          obtain ⟨P1, c1, h1⟩ := h1
          refine ⟨P1, c1, ?_⟩
          intro g231 a5_0 a5_1
          replace h1 := h1 g231 a5_0 a5_1
          replace h2 := h2 g231 a5_0
          exact ⟨h1, h2⟩
        · replace h1 := h1.2 z
          replace h2 := h2.2 z
          obtain ⟨m, hi⟩ := h1
          exact ⟨m, hi, h2⟩
      · replace h1 := h1.2 z
        replace h2 := h2.2 z
        obtain ⟨m, hi⟩ := h1
        exact ⟨m, hi, h2⟩
    · replace h1 := h1.2 z
      replace h2 := h2.2 z
      intro b233 a3_0 a3_1 x240 a3_2
      replace h1 := h1 b233 a3_0 a3_1 x240 a3_2
      replace h2 := h2 b233 a3_0 a3_1 x240 a3_2
      obtain ⟨P1, c1, h1⟩ := h1
      refine ⟨P1, c1, ?_⟩
      intro g246 a3_0 a3_1
      replace h1 := h1 g246 a3_0 a3_1
      replace h2 := h2 g246 a3_0
      obtain ⟨P1, c1, h1⟩ := h1
      refine ⟨P1, c1, ?_⟩
      intro g253 a3_0 a3_1
      replace h1 := h1 g253 a3_0 a3_1
      replace h2 := h2 g253 a3_0
      exact ⟨h1, h2⟩
  · intro n g v73_2 e0 e1 e2 hI
    have h1 := h1_0 n g v73_2 e0 e1 e2 hI.1
    have h2 := h2_0 g v73_2 e0 e1 e2 hI.2
    clear h1E h2E hI h1_0 h2_0 h1_1 h2_1 h1_2 h2_2
    refine ⟨fun z => ?_, fun z => ?_⟩
    · replace h1 := h1.1 z
      replace h2 := h2.1 z
      refine ⟨fun z => ?_, fun z => ?_⟩
      · replace h1 := h1.1 z
        replace h2 := h2.1 z
        obtain ⟨m, hm, hi⟩ := h1
        exact ⟨m, hm, hi, h2⟩
      · replace h1 := h1.2 z
        replace h2 := h2.2 z
        obtain ⟨m, hm, hi⟩ := h1
        exact ⟨m, hm, hi, h2⟩
    · replace h1 := h1.2 z
      replace h2 := h2.2 z
      obtain ⟨m, hm, hi⟩ := h1
      exact ⟨m, hm, hi, h2⟩
  · intro n g v85_2 e0 e1 e2 hI
    have h1 := h1_1 n g v85_2 e0 e1 e2 hI.1
    have h2 := h2_1 g v85_2 e0 e1 e2 hI.2
    clear h1E h2E hI h1_0 h2_0 h1_1 h2_1 h1_2 h2_2
    obtain ⟨P1, c1, h1⟩ := h1
    refine ⟨P1, c1, ?_⟩
    intro g8 a2_0 a2_1
    replace h1 := h1 g8 a2_0 a2_1
    replace h2 := h2 g8 a2_0
    obtain ⟨m, hm, hi⟩ := h1
    exact ⟨m, hm, hi, h2⟩
  · intro n g v99_2 v99_3 e0 e1 e2 e3 e4 hI
    have h1 := h1_2 n g v99_2 v99_3 e0 e1 e2 e3 e4 hI.1
    have h2 := h2_2 g v99_2 v99_3 e0 e1 e2 e3 e4 hI.2
    clear h1E h2E hI h1_0 h2_0 h1_1 h2_1 h1_2 h2_2
    obtain ⟨P1, c1, h1⟩ := h1
    refine ⟨P1, c1, ?_⟩
    intro x15 a2_0 a2_1 g18 a2_2 a2_3
    replace h1 := h1 x15 a2_0 a2_1 g18 a2_2 a2_3
    replace h2 := h2 x15 a2_0 a2_1 g18 a2_2
    refine ⟨fun z => ?_, fun z => ?_⟩
    · replace h1 := h1.1 z
      replace h2 := h2.1 z
      obtain ⟨P1, c1, h1⟩ := h1
      refine ⟨P1, c1, ?_⟩
      intro g26 a3_0 a3_1
      replace h1 := h1 g26 a3_0 a3_1
      replace h2 := h2 g26 a3_0
      obtain ⟨P1, c1, h1⟩ := h1
      obtain ⟨P2, c2, h2⟩ := h2
      refine ⟨fun v g => P1 v g ∧ P2 v g, cj_1297_c8 c1 c2, ?_⟩
      intro x33 a3_0 a3_1 g36 a3_2 a3_3
      replace h1 := h1 x33 a3_0 a3_1 g36 a3_2 a3_3.1
      replace h2 := h2 x33 a3_0 a3_1 g36 a3_2 a3_3.2
      refine ⟨fun z => ?_, fun z => ?_⟩
      · replace h1 := h1.1 z
        replace h2 := h2.1 z
        refine ⟨fun z => ?_, fun z => ?_⟩
        · replace h1 := h1.1 z
          replace h2 := h2.1 z
          obtain ⟨P1, c1, h1⟩ := h1
          refine ⟨P1, c1, ?_⟩
          intro x45 a5_0 a5_1 g48 a5_2 a5_3
          replace h1 := h1 x45 a5_0 a5_1 g48 a5_2 a5_3
          replace h2 := h2 x45 a5_0 a5_1 g48 a5_2
          refine ⟨fun z => ?_, fun z => ?_⟩
          · replace h1 := h1.1 z
            replace h2 := h2.1 z
            obtain ⟨P1, c1, h1⟩ := h1
            refine ⟨P1, c1, ?_⟩
            intro g56 a6_0 a6_1
            replace h1 := h1 g56 a6_0 a6_1
            replace h2 := h2 g56 a6_0
            obtain ⟨P1, c1, h1⟩ := h1
            obtain ⟨P2, c2, h2⟩ := h2
            refine ⟨fun v g => P1 v g ∧ P2 v g, cj_1297_c8 c1 c2, ?_⟩
            intro x63 a6_0 a6_1 g66 a6_2 a6_3
            replace h1 := h1 x63 a6_0 a6_1 g66 a6_2 a6_3.1
            replace h2 := h2 x63 a6_0 a6_1 g66 a6_2 a6_3.2
            refine ⟨fun z => ?_, fun z => ?_⟩
            · replace h1 := h1.1 z
              replace h2 := h2.1 z
              intro b69 a7_0 a7_1
              replace h1 := h1 b69 a7_0 a7_1
              replace h2 := h2 b69 a7_0 a7_1
              refine ⟨fun z => ?_, fun z => ?_⟩
              · replace h1 := h1.1 z
                replace h2 := h2.1 z
                obtain ⟨P1, c1, h1⟩ := h1
                refine ⟨P1, c1, ?_⟩
                intro g79 a8_0 a8_1
                replace h1 := h1 g79 a8_0 a8_1
                replace h2 := h2 g79 a8_0
                obtain ⟨P1, c1, h1⟩ := h1
                refine ⟨P1, c1, ?_⟩
                intro x86 a8_0 a8_1 g89 a8_2 a8_3
                replace h1 := h1 x86 a8_0 a8_1 g89 a8_2 a8_3
                replace h2 := h2 x86 a8_0 a8_1 g89 a8_2
                refine ⟨fun z => ?_, fun z => ?_⟩
                · replace h1 := h1.1 z
                  replace h2 := h2.1 z
                  obtain ⟨P1, c1, h1⟩ := h1
                  refine ⟨P1, c1, ?_⟩
                  intro g97 a9_0 a9_1
                  replace h1 := h1 g97 a9_0 a9_1
                  replace h2 := h2 g97 a9_0
                  exact ⟨h1, h2⟩
                · replace h1 := h1.2 z
                  replace h2 := h2.2 z
                  obtain ⟨P1, c1, h1⟩ := h1
                  refine ⟨P1, c1, ?_⟩
                  intro x104 a9_0 a9_1 g107 a9_2 a9_3
                  replace h1 := h1 x104 a9_0 a9_1 g107 a9_2 a9_3
                  replace h2 := h2 x104 a9_0 a9_1 g107 a9_2
                  exact ⟨h1, h2⟩
              · replace h1 := h1.2 z
                replace h2 := h2.2 z
                obtain ⟨P1, c1, h1⟩ := h1
                refine ⟨P1, c1, ?_⟩
                intro g114 a8_0 a8_1
                replace h1 := h1 g114 a8_0 a8_1
                replace h2 := h2 g114 a8_0
                obtain ⟨P1, c1, h1⟩ := h1
                refine ⟨P1, c1, ?_⟩
                intro x121 a8_0 a8_1 g124 a8_2 a8_3
                replace h1 := h1 x121 a8_0 a8_1 g124 a8_2 a8_3
                replace h2 := h2 x121 a8_0 a8_1 g124 a8_2
                refine ⟨fun z => ?_, fun z => ?_⟩
                · replace h1 := h1.1 z
                  replace h2 := h2.1 z
                  obtain ⟨P1, c1, h1⟩ := h1
                  refine ⟨P1, c1, ?_⟩
                  intro g132 a9_0 a9_1
                  replace h1 := h1 g132 a9_0 a9_1
                  replace h2 := h2 g132 a9_0
                  exact ⟨h1, h2⟩
                · replace h1 := h1.2 z
                  replace h2 := h2.2 z
                  obtain ⟨P1, c1, h1⟩ := h1
                  refine ⟨P1, c1, ?_⟩
                  intro x139 a9_0 a9_1 g142 a9_2 a9_3
                  replace h1 := h1 x139 a9_0 a9_1 g142 a9_2 a9_3
                  replace h2 := h2 x139 a9_0 a9_1 g142 a9_2
                  exact ⟨h1, h2⟩
            · replace h1 := h1.2 z
              replace h2 := h2.2 z
              exact ⟨h1, h2⟩
          · replace h1 := h1.2 z
            replace h2 := h2.2 z
            obtain ⟨P1, c1, h1⟩ := h1
            refine ⟨P1, c1, ?_⟩
            intro x149 a6_0 a6_1 g152 a6_2 a6_3
            replace h1 := h1 x149 a6_0 a6_1 g152 a6_2 a6_3
            replace h2 := h2 x149 a6_0 a6_1 g152 a6_2
            exact ⟨h1, h2⟩
        · replace h1 := h1.2 z
          replace h2 := h2.2 z
          obtain ⟨P1, c1, h1⟩ := h1
          refine ⟨P1, c1, ?_⟩
          intro x159 a5_0 a5_1 g162 a5_2 a5_3
          replace h1 := h1 x159 a5_0 a5_1 g162 a5_2 a5_3
          replace h2 := h2 x159 a5_0 a5_1 g162 a5_2
          refine ⟨fun z => ?_, fun z => ?_⟩
          · replace h1 := h1.1 z
            replace h2 := h2.1 z
            obtain ⟨P1, c1, h1⟩ := h1
            refine ⟨P1, c1, ?_⟩
            intro g170 a6_0 a6_1
            replace h1 := h1 g170 a6_0 a6_1
            replace h2 := h2 g170 a6_0
            exact ⟨h1, h2⟩
          · replace h1 := h1.2 z
            replace h2 := h2.2 z
            obtain ⟨P1, c1, h1⟩ := h1
            refine ⟨P1, c1, ?_⟩
            intro x177 a6_0 a6_1 g180 a6_2 a6_3
            replace h1 := h1 x177 a6_0 a6_1 g180 a6_2 a6_3
            replace h2 := h2 x177 a6_0 a6_1 g180 a6_2
            exact ⟨h1, h2⟩
      · replace h1 := h1.2 z
        replace h2 := h2.2 z
        exact ⟨h1, h2⟩
    · replace h1 := h1.2 z
      replace h2 := h2.2 z
      obtain ⟨P1, c1, h1⟩ := h1
      refine ⟨P1, c1, ?_⟩
      intro x187 a3_0 a3_1 g190 a3_2 a3_3
      replace h1 := h1 x187 a3_0 a3_1 g190 a3_2 a3_3
      replace h2 := h2 x187 a3_0 a3_1 g190 a3_2
      exact ⟨h1, h2⟩
set_option maxRecDepth 100000 in
def p_1297_c7 (s0 : zF) (Q : Int → zF → Prop) : Prop :=
  ∃ (I4 : zF → Int → Int → Prop) (I17 : zF → Int → Int → Int → Int → Prop) (I52 : zF → Int → Int → Int → Prop) (I95 : zF → Int → Int → Int → Int → Prop) (I115 : zF → Int → Int → Prop) (I130 : zF → Int → Prop),
    (I4 s0 0 0) ∧
    (∀ (g : zF) (v4_2 : Int) (v4_3 : Int), zFr [(2, 3, 0), (2, 3, 1), (20, 21, 1), (41, 42, 1), (21, 22, 1000), (42, 43, 1000), (2, 3, 7)] s0 g → (-13) ≤ v4_2 → v4_2 ≤ 0 → 0 ≤ v4_3 → v4_3 ≤ 1601 → I4 g v4_2 v4_3 → (1600 < v4_3 → Q 1 g) ∧ (v4_3 ≤ 1600 → I17 g v4_2 v4_3 0 0)) ∧
    (∀ (g : zF) (v17_2 : Int) (v17_3 : Int) (v17_4 : Int) (v17_5 : Int), zFr [(2, 3, 0), (2, 3, 1), (20, 21, 1), (41, 42, 1), (21, 22, 1000), (42, 43, 1000), (2, 3, 7)] s0 g → v17_2 ≤ 0 → 0 ≤ v17_3 → v17_3 ≤ 1600 → (-11) ≤ v17_4 → v17_4 ≤ 0 → 0 ≤ v17_5 → v17_5 ≤ 1601 → I17 g v17_2 v17_3 v17_4 v17_5 → (1600 < v17_5 → I115 g v17_2 v17_3) ∧ (v17_5 ≤ 1600 → ∃ P5 : Int → zF → Prop, p_1298_c7 g P5 ∧ ∀ x8 : Int, 0 ≤ x8 → x8 ≤ 1 → ∀ g11 : zF, zFr [(2, 3, 0), (2, 3, 1), (20, 21, 1), (41, 42, 1), (21, 22, 1000), (42, 43, 1000), (2, 3, 7)] g g11 → P5 x8 g11 → (¬ x8 = 0 → (¬ v17_4 = 0 → ∀ b15 : Nat, (b15 : Int) = g11 (2) 8 → (b15 = 7 ∨ b15 = 28) → ∀ g24 : zF, zFr [(b15 + 13, b15 + 14, 1), (b15 + 14, b15 + 15, 1000)] g11 g24 → I52 g24 v17_2 v17_3 v17_5) ∧ (v17_4 = 0 → I52 g11 v17_2 v17_3 v17_5)) ∧ (x8 = 0 → Q 0 g11))) ∧
    (∀ (g : zF) (v52_2 : Int) (v52_3 : Int) (v52_5 : Int), zFr [(2, 3, 0), (2, 3, 1), (20, 21, 1), (41, 42, 1), (21, 22, 1000), (42, 43, 1000), (2, 3, 7)] s0 g → v52_2 ≤ 0 → 0 ≤ v52_3 → v52_3 ≤ 1600 → 0 ≤ v52_5 → v52_5 ≤ 1600 → I52 g v52_2 v52_3 v52_5 → ∀ x31 : Int, 0 ≤ x31 → x31 ≤ 1 → ∀ g34 : zF, zFr [] g g34 → (¬ x31 = 0 → I95 g34 v52_2 v52_3 v52_5 (-9)) ∧ (x31 = 0 → ∀ x42 : Int, 0 ≤ x42 → x42 ≤ 1 → ∀ g45 : zF, zFr [] g34 g45 → (¬ x42 = 0 → I95 g45 v52_2 v52_3 v52_5 (-10)) ∧ (x42 = 0 → ∀ x53 : Int, 0 ≤ x53 → x53 ≤ 1 → ∀ g56 : zF, zFr [] g45 g56 → (¬ x53 = 0 → I95 g56 v52_2 v52_3 v52_5 (-11)) ∧ (x53 = 0 → I95 g56 v52_2 v52_3 v52_5 0)))) ∧
    (∀ (g : zF) (v95_2 : Int) (v95_3 : Int) (v95_5 : Int) (s95_0 : Int), zFr [(2, 3, 0), (2, 3, 1), (20, 21, 1), (41, 42, 1), (21, 22, 1000), (42, 43, 1000), (2, 3, 7)] s0 g → v95_2 ≤ 0 → 0 ≤ v95_3 → v95_3 ≤ 1600 → 0 ≤ v95_5 → v95_5 ≤ 1600 → (-11) ≤ s95_0 → s95_0 ≤ 0 → I95 g v95_2 v95_3 v95_5 s95_0 → (¬ s95_0 = 0 → ∀ g65 : zF, zFr [(2, 3, 7)] g g65 → ∀ x67 : Int, x67 = v95_5 + 1 → I17 g65 v95_2 v95_3 s95_0 x67) ∧ (s95_0 = 0 → I115 g v95_2 v95_3)) ∧
    (∀ (g : zF) (v115_2 : Int) (v115_3 : Int), zFr [(2, 3, 0), (2, 3, 1), (20, 21, 1), (41, 42, 1), (21, 22, 1000), (42, 43, 1000), (2, 3, 7)] s0 g → v115_2 ≤ 0 → 0 ≤ v115_3 → v115_3 ≤ 1600 → I115 g v115_2 v115_3 → (¬ v115_2 = 0 → ∀ b70 : Nat, (b70 : Int) = g (2) 8 → (b70 = 7 ∨ b70 = 28) → ∀ g79 : zF, zFr [(b70 + 13, b70 + 14, 1), (b70 + 14, b70 + 15, 1000)] g g79 → I130 g79 v115_3) ∧ (v115_2 = 0 → I130 g v115_3)) ∧
    (∀ (g : zF) (v130_3 : Int), zFr [(2, 3, 0), (2, 3, 1), (20, 21, 1), (41, 42, 1), (21, 22, 1000), (42, 43, 1000), (2, 3, 7)] s0 g → 0 ≤ v130_3 → v130_3 ≤ 1600 → I130 g v130_3 → ∀ x86 : Int, 0 ≤ x86 → x86 ≤ 1 → ∀ g89 : zF, zFr [] g g89 → (¬ x86 = 0 → ∀ g97 : zF, zFr [(2, 3, 7)] g89 g97 → ∀ x99 : Int, x99 = v130_3 + 1 → I4 g97 (-12) x99) ∧ (x86 = 0 → ∀ x106 : Int, 0 ≤ x106 → x106 ≤ 1 → ∀ g109 : zF, zFr [] g89 g109 → (¬ x106 = 0 → ∀ g117 : zF, zFr [(2, 3, 7)] g109 g117 → ∀ x119 : Int, x119 = v130_3 + 1 → I4 g117 (-13) x119) ∧ (x106 = 0 → Q 1 g109)))
set_option maxRecDepth 100000 in
theorem cj_1297_c7 {s0 : zF} {Q1 Q2 : Int → zF → Prop} (h1 : b_1297_c7 s0 Q1) (h2 : p_1297_c7 s0 Q2) : b_1297_c7 s0 (fun v g => Q1 v g ∧ Q2 v g) := by
  obtain ⟨I4, I17, I52, I95, I115, I130, h1E, h1_0, h1_1, h1_2, h1_3, h1_4, h1_5⟩ := h1
  obtain ⟨J4, J17, J52, J95, J115, J130, h2E, h2_0, h2_1, h2_2, h2_3, h2_4, h2_5⟩ := h2
  refine ⟨fun n g y0 y1 => I4 n g y0 y1 ∧ J4 g y0 y1, fun n g y0 y1 y2 y3 => I17 n g y0 y1 y2 y3 ∧ J17 g y0 y1 y2 y3, fun n g y0 y1 y2 => I52 n g y0 y1 y2 ∧ J52 g y0 y1 y2, fun n g y0 y1 y2 y3 => I95 n g y0 y1 y2 y3 ∧ J95 g y0 y1 y2 y3, fun n g y0 y1 => I115 n g y0 y1 ∧ J115 g y0 y1, fun n g y0 => I130 n g y0 ∧ J130 g y0, ?_, ?_, ?_, ?_, ?_, ?_, ?_⟩
  · have h1 := h1E
    have h2 := h2E
    clear h1E h2E h1_0 h2_0 h1_1 h2_1 h1_2 h2_2 h1_3 h2_3 h1_4 h2_4 h1_5 h2_5
    obtain ⟨m, hi⟩ := h1
    exact ⟨m, hi, h2⟩
  · intro n g v4_2 v4_3 e0 e1 e2 e3 e4 hI
    have h1 := h1_0 n g v4_2 v4_3 e0 e1 e2 e3 e4 hI.1
    have h2 := h2_0 g v4_2 v4_3 e0 e1 e2 e3 e4 hI.2
    clear h1E h2E hI h1_0 h2_0 h1_1 h2_1 h1_2 h2_2 h1_3 h2_3 h1_4 h2_4 h1_5 h2_5
    refine ⟨fun z => ?_, fun z => ?_⟩
    · replace h1 := h1.1 z
      replace h2 := h2.1 z
      exact ⟨h1, h2⟩
    · replace h1 := h1.2 z
      replace h2 := h2.2 z
      obtain ⟨m, hm, hi⟩ := h1
      exact ⟨m, hm, hi, h2⟩
  · intro n g v17_2 v17_3 v17_4 v17_5 e0 e1 e2 e3 e4 e5 e6 e7 hI
    have h1 := h1_1 n g v17_2 v17_3 v17_4 v17_5 e0 e1 e2 e3 e4 e5 e6 e7 hI.1
    have h2 := h2_1 g v17_2 v17_3 v17_4 v17_5 e0 e1 e2 e3 e4 e5 e6 e7 hI.2
    clear h1E h2E hI h1_0 h2_0 h1_1 h2_1 h1_2 h2_2 h1_3 h2_3 h1_4 h2_4 h1_5 h2_5
    refine ⟨fun z => ?_, fun z => ?_⟩
    · replace h1 := h1.1 z
      replace h2 := h2.1 z
      obtain ⟨m, hm, hi⟩ := h1
      exact ⟨m, hm, hi, h2⟩
    · replace h1 := h1.2 z
      replace h2 := h2.2 z
      obtain ⟨P1, c1, h1⟩ := h1
      obtain ⟨P2, c2, h2⟩ := h2
      refine ⟨fun v g => P1 v g ∧ P2 v g, cj_1298_c7 c1 c2, ?_⟩
      intro x8 a3_0 a3_1 g11 a3_2 a3_3
      replace h1 := h1 x8 a3_0 a3_1 g11 a3_2 a3_3.1
      replace h2 := h2 x8 a3_0 a3_1 g11 a3_2 a3_3.2
      refine ⟨fun z => ?_, fun z => ?_⟩
      · replace h1 := h1.1 z
        replace h2 := h2.1 z
        refine ⟨fun z => ?_, fun z => ?_⟩
        · replace h1 := h1.1 z
          replace h2 := h2.1 z
          intro b15 a5_0 a5_1
          replace h1 := h1 b15 a5_0 a5_1
          replace h2 := h2 b15 a5_0 a5_1
          obtain ⟨P1, c1, h1⟩ := h1
          refine ⟨P1, c1, ?_⟩
          intro g24 a5_0 a5_1
          replace h1 := h1 g24 a5_0 a5_1
          replace h2 := h2 g24 a5_0
          obtain ⟨m, hm, hi⟩ := h1
          exact ⟨m, hm, hi, h2⟩
        · replace h1 := h1.2 z
          replace h2 := h2.2 z
          obtain ⟨m, hm, hi⟩ := h1
          exact ⟨m, hm, hi, h2⟩
      · replace h1 := h1.2 z
        replace h2 := h2.2 z
        exact ⟨h1, h2⟩
  · intro n g v52_2 v52_3 v52_5 e0 e1 e2 e3 e4 e5 hI
    have h1 := h1_2 n g v52_2 v52_3 v52_5 e0 e1 e2 e3 e4 e5 hI.1
    have h2 := h2_2 g v52_2 v52_3 v52_5 e0 e1 e2 e3 e4 e5 hI.2
    clear h1E h2E hI h1_0 h2_0 h1_1 h2_1 h1_2 h2_2 h1_3 h2_3 h1_4 h2_4 h1_5 h2_5
    obtain ⟨P1, c1, h1⟩ := h1
    refine ⟨P1, c1, ?_⟩
    intro x31 a2_0 a2_1 g34 a2_2 a2_3
    replace h1 := h1 x31 a2_0 a2_1 g34 a2_2 a2_3
    replace h2 := h2 x31 a2_0 a2_1 g34 a2_2
    refine ⟨fun z => ?_, fun z => ?_⟩
    · replace h1 := h1.1 z
      replace h2 := h2.1 z
      obtain ⟨m, hm, hi⟩ := h1
      exact ⟨m, hm, hi, h2⟩
    · replace h1 := h1.2 z
      replace h2 := h2.2 z
      obtain ⟨P1, c1, h1⟩ := h1
      refine ⟨P1, c1, ?_⟩
      intro x42 a3_0 a3_1 g45 a3_2 a3_3
      replace h1 := h1 x42 a3_0 a3_1 g45 a3_2 a3_3
      replace h2 := h2 x42 a3_0 a3_1 g45 a3_2
      refine ⟨fun z => ?_, fun z => ?_⟩
      · replace h1 := h1.1 z
        replace h2 := h2.1 z
        obtain ⟨m, hm, hi⟩ := h1
        exact ⟨m, hm, hi, h2⟩
      · replace h1 := h1.2 z
        replace h2 := h2.2 z
        obtain ⟨P1, c1, h1⟩ := h1
        refine ⟨P1, c1, ?_⟩
        intro x53 a4_0 a4_1 g56 a4_2 a4_3
        replace h1 := h1 x53 a4_0 a4_1 g56 a4_2 a4_3
        replace h2 := h2 x53 a4_0 a4_1 g56 a4_2
        refine ⟨fun z => ?_, fun z => ?_⟩
        · replace h1 := h1.1 z
          replace h2 := h2.1 z
          obtain ⟨m, hm, hi⟩ := h1
          exact ⟨m, hm, hi, h2⟩
        · replace h1 := h1.2 z
          replace h2 := h2.2 z
          obtain ⟨m, hm, hi⟩ := h1
          exact ⟨m, hm, hi, h2⟩
  · intro n g v95_2 v95_3 v95_5 s95_0 e0 e1 e2 e3 e4 e5 e6 e7 hI
    have h1 := h1_3 n g v95_2 v95_3 v95_5 s95_0 e0 e1 e2 e3 e4 e5 e6 e7 hI.1
    have h2 := h2_3 g v95_2 v95_3 v95_5 s95_0 e0 e1 e2 e3 e4 e5 e6 e7 hI.2
    clear h1E h2E hI h1_0 h2_0 h1_1 h2_1 h1_2 h2_2 h1_3 h2_3 h1_4 h2_4 h1_5 h2_5
    refine ⟨fun z => ?_, fun z => ?_⟩
    · replace h1 := h1.1 z
      replace h2 := h2.1 z
      obtain ⟨P1, c1, h1⟩ := h1
      refine ⟨P1, c1, ?_⟩
      intro g65 a3_0 a3_1 x67 a3_2
      replace h1 := h1 g65 a3_0 a3_1 x67 a3_2
      replace h2 := h2 g65 a3_0 x67 a3_2
      obtain ⟨m, hm, hi⟩ := h1
      exact ⟨m, hm, hi, h2⟩
    · replace h1 := h1.2 z
      replace h2 := h2.2 z
      obtain ⟨m, hm, hi⟩ := h1
      exact ⟨m, hm, hi, h2⟩
  · intro n g v115_2 v115_3 e0 e1 e2 e3 hI
    have h1 := h1_4 n g v115_2 v115_3 e0 e1 e2 e3 hI.1
    have h2 := h2_4 g v115_2 v115_3 e0 e1 e2 e3 hI.2
    clear h1E h2E hI h1_0 h2_0 h1_1 h2_1 h1_2 h2_2 h1_3 h2_3 h1_4 h2_4 h1_5 h2_5
    refine ⟨fun z => ?_, fun z => ?_⟩
    · replace h1 := h1.1 z
      replace h2 := h2.1 z
      intro b70 a3_0 a3_1
      replace h1 := h1 b70 a3_0 a3_1
      replace h2 := h2 b70 a3_0 a3_1
      obtain ⟨P1, c1, h1⟩ := h1
      refine ⟨P1, c1, ?_⟩
      intro g79 a3_0 a3_1
      replace h1 := h1 g79 a3_0 a3_1
      replace h2 := h2 g79 a3_0
      obtain ⟨m, hm, hi⟩ := h1
      exact ⟨m, hm, hi, h2⟩
    · replace h1 := h1.2 z
      replace h2 := h2.2 z
      obtain ⟨m, hm, hi⟩ := h1
      exact ⟨m, hm, hi, h2⟩
  · intro n g v130_3 e0 e1 e2 hI
    have h1 := h1_5 n g v130_3 e0 e1 e2 hI.1
    have h2 := h2_5 g v130_3 e0 e1 e2 hI.2
    clear h1E h2E hI h1_0 h2_0 h1_1 h2_1 h1_2 h2_2 h1_3 h2_3 h1_4 h2_4 h1_5 h2_5
    obtain ⟨P1, c1, h1⟩ := h1
    refine ⟨P1, c1, ?_⟩
    intro x86 a2_0 a2_1 g89 a2_2 a2_3
    replace h1 := h1 x86 a2_0 a2_1 g89 a2_2 a2_3
    replace h2 := h2 x86 a2_0 a2_1 g89 a2_2
    refine ⟨fun z => ?_, fun z => ?_⟩
    · replace h1 := h1.1 z
      replace h2 := h2.1 z
      obtain ⟨P1, c1, h1⟩ := h1
      refine ⟨P1, c1, ?_⟩
      intro g97 a3_0 a3_1 x99 a3_2
      replace h1 := h1 g97 a3_0 a3_1 x99 a3_2
      replace h2 := h2 g97 a3_0 x99 a3_2
      obtain ⟨m, hm, hi⟩ := h1
      exact ⟨m, hm, hi, h2⟩
    · replace h1 := h1.2 z
      replace h2 := h2.2 z
      obtain ⟨P1, c1, h1⟩ := h1
      refine ⟨P1, c1, ?_⟩
      intro x106 a3_0 a3_1 g109 a3_2 a3_3
      replace h1 := h1 x106 a3_0 a3_1 g109 a3_2 a3_3
      replace h2 := h2 x106 a3_0 a3_1 g109 a3_2
      refine ⟨fun z => ?_, fun z => ?_⟩
      · replace h1 := h1.1 z
        replace h2 := h2.1 z
        obtain ⟨P1, c1, h1⟩ := h1
        refine ⟨P1, c1, ?_⟩
        intro g117 a4_0 a4_1 x119 a4_2
        replace h1 := h1 g117 a4_0 a4_1 x119 a4_2
        replace h2 := h2 g117 a4_0 x119 a4_2
        obtain ⟨m, hm, hi⟩ := h1
        exact ⟨m, hm, hi, h2⟩
      · replace h1 := h1.2 z
        replace h2 := h2.2 z
        exact ⟨h1, h2⟩
set_option maxRecDepth 100000 in
def p_1298_c6 (s0 : zF) (Q : Int → zF → Prop) : Prop :=
  ∃ (I73 : zF → Int → Prop) (I85 : zF → Int → Prop) (I99 : zF → Int → Int → Prop),
    (∀ x192 : Int, x192 = s0 (2) 7 → 0 ≤ x192 → x192 ≤ 1600 → ∀ x199 : Int, x199 = s0 (4) x192.toNat → 0 ≤ x199 → x199 ≤ 5 → (¬ x199 = 4 → ∀ x206 : Int, (-1) ≤ x206 → x206 ≤ 26 → ∀ g209 : zF, zFr [] s0 g209 → (¬ x206 = (-1) → (x206 < 7 → ∀ b213 : Nat, (b213 : Int) = g209 (2) 8 → (b213 = 7 ∨ b213 = 28) → ∀ x217 : Int, x217 = (-1) - x206 → ∀ g224 : zF, zFr [(b213 + 13, b213 + 14, 1), (b213 + 14, b213 + 15, 1000)] g209 g224 → ∀ g231 : zF, zFr [(2, 3, 7)] g224 g231 → Q 1 g231) ∧ (7 ≤ x206 → I73 g209 x206)) ∧ (x206 = (-1) → I73 g209 x206)) ∧ (x199 = 4 → ∀ b233 : Nat, (b233 : Int) = s0 (2) 8 → (b233 = 7 ∨ b233 = 28) → ∀ x240 : Int, x240 = s0 (5) x192.toNat → ∀ g246 : zF, zFr [(b233 + 13, b233 + 14, 1), (b233 + 14, b233 + 15, 1000)] s0 g246 → ∀ g253 : zF, zFr [(2, 3, 7)] g246 g253 → Q 1 g253)) ∧
    (∀ (g : zF) (v73_2 : Int), zFr [(2, 3, 0), (2, 3, 1), (20, 21, 1), (41, 42, 1), (21, 22, 1000), (42, 43, 1000), (2, 3, 7)] s0 g → (-1) ≤ v73_2 → v73_2 ≤ 26 → I73 g v73_2 → (¬ v73_2 = 25 → (¬ v73_2 = 26 → I99 g v73_2 0) ∧ (v73_2 = 26 → I85 g v73_2)) ∧ (v73_2 = 25 → I85 g v73_2)) ∧
    (∀ (g : zF) (v85_2 : Int), zFr [(2, 3, 0), (2, 3, 1), (20, 21, 1), (41, 42, 1), (21, 22, 1000), (42, 43, 1000), (2, 3, 7)] s0 g → 25 ≤ v85_2 → v85_2 ≤ 26 → I85 g v85_2 → ∀ g8 : zF, zFr [(2, 3, 7)] g g8 → I99 g8 v85_2 1) ∧
    (∀ (g : zF) (v99_2 : Int) (v99_3 : Int), zFr [(2, 3, 0), (2, 3, 1), (20, 21, 1), (41, 42, 1), (21, 22, 1000), (42, 43, 1000), (2, 3, 7)] s0 g → (-1) ≤ v99_2 → v99_2 ≤ 26 → 0 ≤ v99_3 → v99_3 ≤ 1 → I99 g v99_2 v99_3 → ∀ x15 : Int, 0 ≤ x15 → x15 ≤ 1 → ∀ g18 : zF, zFr [] g g18 → (¬ x15 = 0 → ∀ g26 : zF, zFr [(2, 3, 7)] g18 g26 → ∃ P30 : Int → zF → Prop, p_1297_c7 g26 P30 ∧ ∀ x33 : Int, 0 ≤ x33 → x33 ≤ 1 → ∀ g36 : zF, zFr [(2, 3, 0), (2, 3, 1), (20, 21, 1), (41, 42, 1), (21, 22, 1000), (42, 43, 1000), (2, 3, 7)] g26 g36 → P30 x33 g36 → (¬ x33 = 0 → (¬ v99_3 = 0 → ∀ x45 : Int, 0 ≤ x45 → x45 ≤ 1 → ∀ g48 : zF, zFr [] g36 g48 → (¬ x45 = 0 → ∀ g56 : zF, zFr [(2, 3, 7)] g48 g56 → ∃ P60 : Int → zF → Prop, p_1297_c7 g56 P60 ∧ ∀ x63 : Int, 0 ≤ x63 → x63 ≤ 1 → ∀ g66 : zF, zFr [(2, 3, 0), (2, 3, 1), (20, 21, 1), (41, 42, 1), (21, 22, 1000), (42, 43, 1000), (2, 3, 7)] g56 g66 → P60 x63 g66 → (¬ x63 = 0 → ∀ b69 : Nat, (b69 : Int) = g66 (2) 8 → (b69 = 7 ∨ b69 = 28) → (¬ v99_2 = 25 → ∀ g79 : zF, zFr [(b69 + 13, b69 + 14, 1), (b69 + 14, b69 + 15, 1000)] g66 g79 → ∀ x86 : Int, 0 ≤ x86 → x86 ≤ 1 → ∀ g89 : zF, zFr [] g79 g89 → (¬ x86 = 0 → ∀ g97 : zF, zFr [(2, 3, 7)] g89 g97 → Q 1 g97) ∧ (x86 = 0 → ∀ x104 : Int, 0 ≤ x104 → x104 ≤ 0 → ∀ g107 : zF, zFr [(2, 3, 0), (2, 3, 1)] g89 g107 → Q x104 g107)) ∧ (v99_2 = 25 → ∀ g114 : zF, zFr [(b69 + 13, b69 + 14, 1), (b69 + 14, b69 + 15, 1000)] g66 g114 → ∀ x121 : Int, 0 ≤ x121 → x121 ≤ 1 → ∀ g124 : zF, zFr [] g114 g124 → (¬ x121 = 0 → ∀ g132 : zF, zFr [(2, 3, 7)] g124 g132 → Q 1 g132) ∧ (x121 = 0 → ∀ x139 : Int, 0 ≤ x139 → x139 ≤ 0 → ∀ g142 : zF, zFr [(2, 3, 0), (2, 3, 1)] g124 g142 → Q x139 g142))) ∧ (x63 = 0 → Q 0 g66)) ∧ (x45 = 0 → ∀ x149 : Int, 0 ≤ x149 → x149 ≤ 0 → ∀ g152 : zF, zFr [(2, 3, 0), (2, 3, 1)] g48 g152 → Q x149 g152)) ∧ (v99_3 = 0 → ∀ x159 : Int, 0 ≤ x159 → x159 ≤ 1 → ∀ g162 : zF, zFr [] g36 g162 → (¬ x159 = 0 → ∀ g170 : zF, zFr [(2, 3, 7)] g162 g170 → Q 1 g170) ∧ (x159 = 0 → ∀ x177 : Int, 0 ≤ x177 → x177 ≤ 0 → ∀ g180 : zF, zFr [(2, 3, 0), (2, 3, 1)] g162 g180 → Q x177 g180))) ∧ (x33 = 0 → Q 0 g36)) ∧ (x15 = 0 → ∀ x187 : Int, 0 ≤ x187 → x187 ≤ 0 → ∀ g190 : zF, zFr [(2, 3, 0), (2, 3, 1)] g18 g190 → Q x187 g190))
set_option maxRecDepth 100000 in
theorem cj_1298_c6 {s0 : zF} {Q1 Q2 : Int → zF → Prop} (h1 : b_1298_c6 s0 Q1) (h2 : p_1298_c6 s0 Q2) : b_1298_c6 s0 (fun v g => Q1 v g ∧ Q2 v g) := by
  obtain ⟨I73, I85, I99, h1E, h1_0, h1_1, h1_2⟩ := h1
  obtain ⟨J73, J85, J99, h2E, h2_0, h2_1, h2_2⟩ := h2
  refine ⟨fun n g y0 => I73 n g y0 ∧ J73 g y0, fun n g y0 => I85 n g y0 ∧ J85 g y0, fun n g y0 y1 => I99 n g y0 y1 ∧ J99 g y0 y1, ?_, ?_, ?_, ?_⟩
  · have h1 := h1E
    have h2 := h2E
    clear h1E h2E h1_0 h2_0 h1_1 h2_1 h1_2 h2_2
    intro x192 a2_0 a2_1 a2_2 x199 a2_3 a2_4 a2_5
    replace h1 := h1 x192 a2_0 a2_1 a2_2 x199 a2_3 a2_4 a2_5
    replace h2 := h2 x192 a2_0 a2_1 a2_2 x199 a2_3 a2_4 a2_5
    refine ⟨fun z => ?_, fun z => ?_⟩
    · replace h1 := h1.1 z
      replace h2 := h2.1 z
      obtain ⟨P1, c1, h1⟩ := h1
      refine ⟨P1, c1, ?_⟩
      intro x206 a3_0 a3_1 g209 a3_2 a3_3
      replace h1 := h1 x206 a3_0 a3_1 g209 a3_2 a3_3
      replace h2 := h2 x206 a3_0 a3_1 g209 a3_2
      refine ⟨fun z => ?_, fun z => ?_⟩
      · replace h1 := h1.1 z
        replace h2 := h2.1 z
        refine ⟨fun z => ?_, fun z => ?_⟩
        · replace h1 := h1.1 z
          replace h2 := h2.1 z
          intro b213 a5_0 a5_1 x217 a5_2
          replace h1 := h1 b213 a5_0 a5_1 x217 a5_2
          replace h2 := h2 b213 a5_0 a5_1 x217 a5_2
          obtain ⟨P1, c1, h1⟩ := h1
          refine ⟨P1, c1, ?_⟩
          intro g224 a5_0 a5_1
          replace h1 := h1 g224 a5_0 a5_1
          replace h2 := h2 g224 a5_0
          obtain ⟨P1, c1, h1⟩ := h1
          refine ⟨P1, c1, ?_⟩
          intro g231 a5_0 a5_1
          replace h1 := h1 g231 a5_0 a5_1
          replace h2 := h2 g231 a5_0
          exact ⟨h1, h2⟩
        · replace h1 := h1.2 z
          replace h2 := h2.2 z
          obtain ⟨m, hi⟩ := h1
          exact ⟨m, hi, h2⟩
      · replace h1 := h1.2 z
        replace h2 := h2.2 z
        obtain ⟨m, hi⟩ := h1
        exact ⟨m, hi, h2⟩
    · replace h1 := h1.2 z
      replace h2 := h2.2 z
      intro b233 a3_0 a3_1 x240 a3_2
      replace h1 := h1 b233 a3_0 a3_1 x240 a3_2
      replace h2 := h2 b233 a3_0 a3_1 x240 a3_2
      obtain ⟨P1, c1, h1⟩ := h1
      refine ⟨P1, c1, ?_⟩
      intro g246 a3_0 a3_1
      replace h1 := h1 g246 a3_0 a3_1
      replace h2 := h2 g246 a3_0
      obtain ⟨P1, c1, h1⟩ := h1
      refine ⟨P1, c1, ?_⟩
      intro g253 a3_0 a3_1
      replace h1 := h1 g253 a3_0 a3_1
      replace h2 := h2 g253 a3_0
      exact ⟨h1, h2⟩
  · intro n g v73_2 e0 e1 e2 hI
    have h1 := h1_0 n g v73_2 e0 e1 e2 hI.1
    have h2 := h2_0 g v73_2 e0 e1 e2 hI.2
    clear h1E h2E hI h1_0 h2_0 h1_1 h2_1 h1_2 h2_2
    refine ⟨fun z => ?_, fun z => ?_⟩
    · replace h1 := h1.1 z
      replace h2 := h2.1 z
      refine ⟨fun z => ?_, fun z => ?_⟩
      · replace h1 := h1.1 z
        replace h2 := h2.1 z
        obtain ⟨m, hm, hi⟩ := h1
        exact ⟨m, hm, hi, h2⟩
      · replace h1 := h1.2 z
        replace h2 := h2.2 z
        obtain ⟨m, hm, hi⟩ := h1
        exact ⟨m, hm, hi, h2⟩
    · replace h1 := h1.2 z
      replace h2 := h2.2 z
      obtain ⟨m, hm, hi⟩ := h1
      exact ⟨m, hm, hi, h2⟩
  · intro n g v85_2 e0 e1 e2 hI
    have h1 := h1_1 n g v85_2 e0 e1 e2 hI.1
    have h2 := h2_1 g v85_2 e0 e1 e2 hI.2
    clear h1E h2E hI h1_0 h2_0 h1_1 h2_1 h1_2 h2_2
    obtain ⟨P1, c1, h1⟩ := h1
    refine ⟨P1, c1, ?_⟩
    intro g8 a2_0 a2_1
    replace h1 := h1 g8 a2_0 a2_1
    replace h2 := h2 g8 a2_0
    obtain ⟨m, hm, hi⟩ := h1
    exact ⟨m, hm, hi, h2⟩
  · intro n g v99_2 v99_3 e0 e1 e2 e3 e4 hI
    have h1 := h1_2 n g v99_2 v99_3 e0 e1 e2 e3 e4 hI.1
    have h2 := h2_2 g v99_2 v99_3 e0 e1 e2 e3 e4 hI.2
    clear h1E h2E hI h1_0 h2_0 h1_1 h2_1 h1_2 h2_2
    obtain ⟨P1, c1, h1⟩ := h1
    refine ⟨P1, c1, ?_⟩
    intro x15 a2_0 a2_1 g18 a2_2 a2_3
    replace h1 := h1 x15 a2_0 a2_1 g18 a2_2 a2_3
    replace h2 := h2 x15 a2_0 a2_1 g18 a2_2
    refine ⟨fun z => ?_, fun z => ?_⟩
    · replace h1 := h1.1 z
      replace h2 := h2.1 z
      obtain ⟨P1, c1, h1⟩ := h1
      refine ⟨P1, c1, ?_⟩
      intro g26 a3_0 a3_1
      replace h1 := h1 g26 a3_0 a3_1
      replace h2 := h2 g26 a3_0
      obtain ⟨P1, c1, h1⟩ := h1
      obtain ⟨P2, c2, h2⟩ := h2
      refine ⟨fun v g => P1 v g ∧ P2 v g, cj_1297_c7 c1 c2, ?_⟩
      intro x33 a3_0 a3_1 g36 a3_2 a3_3
      replace h1 := h1 x33 a3_0 a3_1 g36 a3_2 a3_3.1
      replace h2 := h2 x33 a3_0 a3_1 g36 a3_2 a3_3.2
      refine ⟨fun z => ?_, fun z => ?_⟩
      · replace h1 := h1.1 z
        replace h2 := h2.1 z
        refine ⟨fun z => ?_, fun z => ?_⟩
        · replace h1 := h1.1 z
          replace h2 := h2.1 z
          obtain ⟨P1, c1, h1⟩ := h1
          refine ⟨P1, c1, ?_⟩
          intro x45 a5_0 a5_1 g48 a5_2 a5_3
          replace h1 := h1 x45 a5_0 a5_1 g48 a5_2 a5_3
          replace h2 := h2 x45 a5_0 a5_1 g48 a5_2
          refine ⟨fun z => ?_, fun z => ?_⟩
          · replace h1 := h1.1 z
            replace h2 := h2.1 z
            obtain ⟨P1, c1, h1⟩ := h1
            refine ⟨P1, c1, ?_⟩
            intro g56 a6_0 a6_1
            replace h1 := h1 g56 a6_0 a6_1
            replace h2 := h2 g56 a6_0
            obtain ⟨P1, c1, h1⟩ := h1
            obtain ⟨P2, c2, h2⟩ := h2
            refine ⟨fun v g => P1 v g ∧ P2 v g, cj_1297_c7 c1 c2, ?_⟩
            intro x63 a6_0 a6_1 g66 a6_2 a6_3
            replace h1 := h1 x63 a6_0 a6_1 g66 a6_2 a6_3.1
            replace h2 := h2 x63 a6_0 a6_1 g66 a6_2 a6_3.2
            refine ⟨fun z => ?_, fun z => ?_⟩
            · replace h1 := h1.1 z
              replace h2 := h2.1 z
              intro b69 a7_0 a7_1
              replace h1 := h1 b69 a7_0 a7_1
              replace h2 := h2 b69 a7_0 a7_1
              refine ⟨fun z => ?_, fun z => ?_⟩
              · replace h1 := h1.1 z
                replace h2 := h2.1 z
                obtain ⟨P1, c1, h1⟩ := h1
                refine ⟨P1, c1, ?_⟩
                intro g79 a8_0 a8_1
                replace h1 := h1 g79 a8_0 a8_1
                replace h2 := h2 g79 a8_0
                obtain ⟨P1, c1, h1⟩ := h1
                refine ⟨P1, c1, ?_⟩
                intro x86 a8_0 a8_1 g89 a8_2 a8_3
                replace h1 := h1 x86 a8_0 a8_1 g89 a8_2 a8_3
                replace h2 := h2 x86 a8_0 a8_1 g89 a8_2
                refine ⟨fun z => ?_, fun z => ?_⟩
                · replace h1 := h1.1 z
                  replace h2 := h2.1 z
                  obtain ⟨P1, c1, h1⟩ := h1
                  refine ⟨P1, c1, ?_⟩
                  intro g97 a9_0 a9_1
                  replace h1 := h1 g97 a9_0 a9_1
                  replace h2 := h2 g97 a9_0
                  exact ⟨h1, h2⟩
                · replace h1 := h1.2 z
                  replace h2 := h2.2 z
                  obtain ⟨P1, c1, h1⟩ := h1
                  refine ⟨P1, c1, ?_⟩
                  intro x104 a9_0 a9_1 g107 a9_2 a9_3
                  replace h1 := h1 x104 a9_0 a9_1 g107 a9_2 a9_3
                  replace h2 := h2 x104 a9_0 a9_1 g107 a9_2
                  exact ⟨h1, h2⟩
              · replace h1 := h1.2 z
                replace h2 := h2.2 z
                obtain ⟨P1, c1, h1⟩ := h1
                refine ⟨P1, c1, ?_⟩
                intro g114 a8_0 a8_1
                replace h1 := h1 g114 a8_0 a8_1
                replace h2 := h2 g114 a8_0
                obtain ⟨P1, c1, h1⟩ := h1
                refine ⟨P1, c1, ?_⟩
                intro x121 a8_0 a8_1 g124 a8_2 a8_3
                replace h1 := h1 x121 a8_0 a8_1 g124 a8_2 a8_3
                replace h2 := h2 x121 a8_0 a8_1 g124 a8_2
                refine ⟨fun z => ?_, fun z => ?_⟩
                · replace h1 := h1.1 z
                  replace h2 := h2.1 z
                  obtain ⟨P1, c1, h1⟩ := h1
                  refine ⟨P1, c1, ?_⟩
                  intro g132 a9_0 a9_1
                  replace h1 := h1 g132 a9_0 a9_1
                  replace h2 := h2 g132 a9_0
                  exact ⟨h1, h2⟩
                · replace h1 := h1.2 z
                  replace h2 := h2.2 z
                  obtain ⟨P1, c1, h1⟩ := h1
                  refine ⟨P1, c1, ?_⟩
                  intro x139 a9_0 a9_1 g142 a9_2 a9_3
                  replace h1 := h1 x139 a9_0 a9_1 g142 a9_2 a9_3
                  replace h2 := h2 x139 a9_0 a9_1 g142 a9_2
                  exact ⟨h1, h2⟩
            · replace h1 := h1.2 z
              replace h2 := h2.2 z
              exact ⟨h1, h2⟩
          · replace h1 := h1.2 z
            replace h2 := h2.2 z
            obtain ⟨P1, c1, h1⟩ := h1
            refine ⟨P1, c1, ?_⟩
            intro x149 a6_0 a6_1 g152 a6_2 a6_3
            replace h1 := h1 x149 a6_0 a6_1 g152 a6_2 a6_3
            replace h2 := h2 x149 a6_0 a6_1 g152 a6_2
            exact ⟨h1, h2⟩
        · replace h1 := h1.2 z
          replace h2 := h2.2 z
          obtain ⟨P1, c1, h1⟩ := h1
          refine ⟨P1, c1, ?_⟩
          intro x159 a5_0 a5_1 g162 a5_2 a5_3
          replace h1 := h1 x159 a5_0 a5_1 g162 a5_2 a5_3
          replace h2 := h2 x159 a5_0 a5_1 g162 a5_2
          refine ⟨fun z => ?_, fun z => ?_⟩
          · replace h1 := h1.1 z
            replace h2 := h2.1 z
            obtain ⟨P1, c1, h1⟩ := h1
            refine ⟨P1, c1, ?_⟩
            intro g170 a6_0 a6_1
            replace h1 := h1 g170 a6_0 a6_1
            replace h2 := h2 g170 a6_0
            exact ⟨h1, h2⟩
          · replace h1 := h1.2 z
            replace h2 := h2.2 z
            obtain ⟨P1, c1, h1⟩ := h1
            refine ⟨P1, c1, ?_⟩
            intro x177 a6_0 a6_1 g180 a6_2 a6_3
            replace h1 := h1 x177 a6_0 a6_1 g180 a6_2 a6_3
            replace h2 := h2 x177 a6_0 a6_1 g180 a6_2
            exact ⟨h1, h2⟩
      · replace h1 := h1.2 z
        replace h2 := h2.2 z
        exact ⟨h1, h2⟩
    · replace h1 := h1.2 z
      replace h2 := h2.2 z
      obtain ⟨P1, c1, h1⟩ := h1
      refine ⟨P1, c1, ?_⟩
      intro x187 a3_0 a3_1 g190 a3_2 a3_3
      replace h1 := h1 x187 a3_0 a3_1 g190 a3_2 a3_3
      replace h2 := h2 x187 a3_0 a3_1 g190 a3_2
      exact ⟨h1, h2⟩
set_option maxRecDepth 100000 in
def p_1297_c6 (s0 : zF) (Q : Int → zF → Prop) : Prop :=
  ∃ (I4 : zF → Int → Int → Prop) (I17 : zF → Int → Int → Int → Int → Prop) (I52 : zF → Int → Int → Int → Prop) (I95 : zF → Int → Int → Int → Int → Prop) (I115 : zF → Int → Int → Prop) (I130 : zF → Int → Prop),
    (I4 s0 0 0) ∧
    (∀ (g : zF) (v4_2 : Int) (v4_3 : Int), zFr [(2, 3, 0), (2, 3, 1), (20, 21, 1), (41, 42, 1), (21, 22, 1000), (42, 43, 1000), (2, 3, 7)] s0 g → (-13) ≤ v4_2 → v4_2 ≤ 0 → 0 ≤ v4_3 → v4_3 ≤ 1601 → I4 g v4_2 v4_3 → (1600 < v4_3 → Q 1 g) ∧ (v4_3 ≤ 1600 → I17 g v4_2 v4_3 0 0)) ∧
    (∀ (g : zF) (v17_2 : Int) (v17_3 : Int) (v17_4 : Int) (v17_5 : Int), zFr [(2, 3, 0), (2, 3, 1), (20, 21, 1), (41, 42, 1), (21, 22, 1000), (42, 43, 1000), (2, 3, 7)] s0 g → v17_2 ≤ 0 → 0 ≤ v17_3 → v17_3 ≤ 1600 → (-11) ≤ v17_4 → v17_4 ≤ 0 → 0 ≤ v17_5 → v17_5 ≤ 1601 → I17 g v17_2 v17_3 v17_4 v17_5 → (1600 < v17_5 → I115 g v17_2 v17_3) ∧ (v17_5 ≤ 1600 → ∃ P5 : Int → zF → Prop, p_1298_c6 g P5 ∧ ∀ x8 : Int, 0 ≤ x8 → x8 ≤ 1 → ∀ g11 : zF, zFr [(2, 3, 0), (2, 3, 1), (20, 21, 1), (41, 42, 1), (21, 22, 1000), (42, 43, 1000), (2, 3, 7)] g g11 → P5 x8 g11 → (¬ x8 = 0 → (¬ v17_4 = 0 → ∀ b15 : Nat, (b15 : Int) = g11 (2) 8 → (b15 = 7 ∨ b15 = 28) → ∀ g24 : zF, zFr [(b15 + 13, b15 + 14, 1), (b15 + 14, b15 + 15, 1000)] g11 g24 → I52 g24 v17_2 v17_3 v17_5) ∧ (v17_4 = 0 → I52 g11 v17_2 v17_3 v17_5)) ∧ (x8 = 0 → Q 0 g11))) ∧
    (∀ (g : zF) (v52_2 : Int) (v52_3 : Int) (v52_5 : Int), zFr [(2, 3, 0), (2, 3, 1), (20, 21, 1), (41, 42, 1), (21, 22, 1000), (42, 43, 1000), (2, 3, 7)] s0 g → v52_2 ≤ 0 → 0 ≤ v52_3 → v52_3 ≤ 1600 → 0 ≤ v52_5 → v52_5 ≤ 1600 → I52 g v52_2 v52_3 v52_5 → ∀ x31 : Int, 0 ≤ x31 → x31 ≤ 1 → ∀ g34 : zF, zFr [] g g34 → (¬ x31 = 0 → I95 g34 v52_2 v52_3 v52_5 (-9)) ∧ (x31 = 0 → ∀ x42 : Int, 0 ≤ x42 → x42 ≤ 1 → ∀ g45 : zF, zFr [] g34 g45 → (¬ x42 = 0 → I95 g45 v52_2 v52_3 v52_5 (-10)) ∧ (x42 = 0 → ∀ x53 : Int, 0 ≤ x53 → x53 ≤ 1 → ∀ g56 : zF, zFr [] g45 g56 → (¬ x53 = 0 → I95 g56 v52_2 v52_3 v52_5 (-11)) ∧ (x53 = 0 → I95 g56 v52_2 v52_3 v52_5 0)))) ∧
    (∀ (g : zF) (v95_2 : Int) (v95_3 : Int) (v95_5 : Int) (s95_0 : Int), zFr [(2, 3, 0), (2, 3, 1), (20, 21, 1), (41, 42, 1), (21, 22, 1000), (42, 43, 1000), (2, 3, 7)] s0 g → v95_2 ≤ 0 → 0 ≤ v95_3 → v95_3 ≤ 1600 → 0 ≤ v95_5 → v95_5 ≤ 1600 → (-11) ≤ s95_0 → s95_0 ≤ 0 → I95 g v95_2 v95_3 v95_5 s95_0 → (¬ s95_0 = 0 → ∀ g65 : zF, zFr [(2, 3, 7)] g g65 → ∀ x67 : Int, x67 = v95_5 + 1 → I17 g65 v95_2 v95_3 s95_0 x67) ∧ (s95_0 = 0 → I115 g v95_2 v95_3)) ∧
    (∀ (g : zF) (v115_2 : Int) (v115_3 : Int), zFr [(2, 3, 0), (2, 3, 1), (20, 21, 1), (41, 42, 1), (21, 22, 1000), (42, 43, 1000), (2, 3, 7)] s0 g → v115_2 ≤ 0 → 0 ≤ v115_3 → v115_3 ≤ 1600 → I115 g v115_2 v115_3 → (¬ v115_2 = 0 → ∀ b70 : Nat, (b70 : Int) = g (2) 8 → (b70 = 7 ∨ b70 = 28) → ∀ g79 : zF, zFr [(b70 + 13, b70 + 14, 1), (b70 + 14, b70 + 15, 1000)] g g79 → I130 g79 v115_3) ∧ (v115_2 = 0 → I130 g v115_3)) ∧
    (∀ (g : zF) (v130_3 : Int), zFr [(2, 3, 0), (2, 3, 1), (20, 21, 1), (41, 42, 1), (21, 22, 1000), (42, 43, 1000), (2, 3, 7)] s0 g → 0 ≤ v130_3 → v130_3 ≤ 1600 → I130 g v130_3 → ∀ x86 : Int, 0 ≤ x86 → x86 ≤ 1 → ∀ g89 : zF, zFr [] g g89 → (¬ x86 = 0 → ∀ g97 : zF, zFr [(2, 3, 7)] g89 g97 → ∀ x99 : Int, x99 = v130_3 + 1 → I4 g97 (-12) x99) ∧ (x86 = 0 → ∀ x106 : Int, 0 ≤ x106 → x106 ≤ 1 → ∀ g109 : zF, zFr [] g89 g109 → (¬ x106 = 0 → ∀ g117 : zF, zFr [(2, 3, 7)] g109 g117 → ∀ x119 : Int, x119 = v130_3 + 1 → I4 g117 (-13) x119) ∧ (x106 = 0 → Q 1 g109)))
set_option maxRecDepth 100000 in
theorem cj_1297_c6 {s0 : zF} {Q1 Q2 : Int → zF → Prop} (h1 : b_1297_c6 s0 Q1) (h2 : p_1297_c6 s0 Q2) : b_1297_c6 s0 (fun v g => Q1 v g ∧ Q2 v g) := by
  obtain ⟨I4, I17, I52, I95, I115, I130, h1E, h1_0, h1_1, h1_2, h1_3, h1_4, h1_5⟩ := h1
  obtain ⟨J4, J17, J52, J95, J115, J130, h2E, h2_0, h2_1, h2_2, h2_3, h2_4, h2_5⟩ := h2
  refine ⟨fun n g y0 y1 => I4 n g y0 y1 ∧ J4 g y0 y1, fun n g y0 y1 y2 y3 => I17 n g y0 y1 y2 y3 ∧ J17 g y0 y1 y2 y3, fun n g y0 y1 y2 => I52 n g y0 y1 y2 ∧ J52 g y0 y1 y2, fun n g y0 y1 y2 y3 => I95 n g y0 y1 y2 y3 ∧ J95 g y0 y1 y2 y3, fun n g y0 y1 => I115 n g y0 y1 ∧ J115 g y0 y1, fun n g y0 => I130 n g y0 ∧ J130 g y0, ?_, ?_, ?_, ?_, ?_, ?_, ?_⟩
  · have h1 := h1E
    have h2 := h2E
    clear h1E h2E h1_0 h2_0 h1_1 h2_1 h1_2 h2_2 h1_3 h2_3 h1_4 h2_4 h1_5 h2_5
    obtain ⟨m, hi⟩ := h1
    exact ⟨m, hi, h2⟩
  · intro n g v4_2 v4_3 e0 e1 e2 e3 e4 hI
    have h1 := h1_0 n g v4_2 v4_3 e0 e1 e2 e3 e4 hI.1
    have h2 := h2_0 g v4_2 v4_3 e0 e1 e2 e3 e4 hI.2
    clear h1E h2E hI h1_0 h2_0 h1_1 h2_1 h1_2 h2_2 h1_3 h2_3 h1_4 h2_4 h1_5 h2_5
    refine ⟨fun z => ?_, fun z => ?_⟩
    · replace h1 := h1.1 z
      replace h2 := h2.1 z
      exact ⟨h1, h2⟩
    · replace h1 := h1.2 z
      replace h2 := h2.2 z
      obtain ⟨m, hm, hi⟩ := h1
      exact ⟨m, hm, hi, h2⟩
  · intro n g v17_2 v17_3 v17_4 v17_5 e0 e1 e2 e3 e4 e5 e6 e7 hI
    have h1 := h1_1 n g v17_2 v17_3 v17_4 v17_5 e0 e1 e2 e3 e4 e5 e6 e7 hI.1
    have h2 := h2_1 g v17_2 v17_3 v17_4 v17_5 e0 e1 e2 e3 e4 e5 e6 e7 hI.2
    clear h1E h2E hI h1_0 h2_0 h1_1 h2_1 h1_2 h2_2 h1_3 h2_3 h1_4 h2_4 h1_5 h2_5
    refine ⟨fun z => ?_, fun z => ?_⟩
    · replace h1 := h1.1 z
      replace h2 := h2.1 z
      obtain ⟨m, hm, hi⟩ := h1
      exact ⟨m, hm, hi, h2⟩
    · replace h1 := h1.2 z
      replace h2 := h2.2 z
      obtain ⟨P1, c1, h1⟩ := h1
      obtain ⟨P2, c2, h2⟩ := h2
      refine ⟨fun v g => P1 v g ∧ P2 v g, cj_1298_c6 c1 c2, ?_⟩
      intro x8 a3_0 a3_1 g11 a3_2 a3_3
      replace h1 := h1 x8 a3_0 a3_1 g11 a3_2 a3_3.1
      replace h2 := h2 x8 a3_0 a3_1 g11 a3_2 a3_3.2
      refine ⟨fun z => ?_, fun z => ?_⟩
      · replace h1 := h1.1 z
        replace h2 := h2.1 z
        refine ⟨fun z => ?_, fun z => ?_⟩
        · replace h1 := h1.1 z
          replace h2 := h2.1 z
          intro b15 a5_0 a5_1
          replace h1 := h1 b15 a5_0 a5_1
          replace h2 := h2 b15 a5_0 a5_1
          obtain ⟨P1, c1, h1⟩ := h1
          refine ⟨P1, c1, ?_⟩
          intro g24 a5_0 a5_1
          replace h1 := h1 g24 a5_0 a5_1
          replace h2 := h2 g24 a5_0
          obtain ⟨m, hm, hi⟩ := h1
          exact ⟨m, hm, hi, h2⟩
        · replace h1 := h1.2 z
          replace h2 := h2.2 z
          obtain ⟨m, hm, hi⟩ := h1
          exact ⟨m, hm, hi, h2⟩
      · replace h1 := h1.2 z
        replace h2 := h2.2 z
        exact ⟨h1, h2⟩
  · intro n g v52_2 v52_3 v52_5 e0 e1 e2 e3 e4 e5 hI
    have h1 := h1_2 n g v52_2 v52_3 v52_5 e0 e1 e2 e3 e4 e5 hI.1
    have h2 := h2_2 g v52_2 v52_3 v52_5 e0 e1 e2 e3 e4 e5 hI.2
    clear h1E h2E hI h1_0 h2_0 h1_1 h2_1 h1_2 h2_2 h1_3 h2_3 h1_4 h2_4 h1_5 h2_5
    obtain ⟨P1, c1, h1⟩ := h1
    refine ⟨P1, c1, ?_⟩
    intro x31 a2_0 a2_1 g34 a2_2 a2_3
    replace h1 := h1 x31 a2_0 a2_1 g34 a2_2 a2_3
    replace h2 := h2 x31 a2_0 a2_1 g34 a2_2
    refine ⟨fun z => ?_, fun z => ?_⟩
    · replace h1 := h1.1 z
      replace h2 := h2.1 z
      obtain ⟨m, hm, hi⟩ := h1
      exact ⟨m, hm, hi, h2⟩
    · replace h1 := h1.2 z
      replace h2 := h2.2 z
      obtain ⟨P1, c1, h1⟩ := h1
      refine ⟨P1, c1, ?_⟩
      intro x42 a3_0 a3_1 g45 a3_2 a3_3
      replace h1 := h1 x42 a3_0 a3_1 g45 a3_2 a3_3
      replace h2 := h2 x42 a3_0 a3_1 g45 a3_2
      refine ⟨fun z => ?_, fun z => ?_⟩
      · replace h1 := h1.1 z
        replace h2 := h2.1 z
        obtain ⟨m, hm, hi⟩ := h1
        exact ⟨m, hm, hi, h2⟩
      · replace h1 := h1.2 z
        replace h2 := h2.2 z
        obtain ⟨P1, c1, h1⟩ := h1
        refine ⟨P1, c1, ?_⟩
        intro x53 a4_0 a4_1 g56 a4_2 a4_3
        replace h1 := h1 x53 a4_0 a4_1 g56 a4_2 a4_3
        replace h2 := h2 x53 a4_0 a4_1 g56 a4_2
        refine ⟨fun z => ?_, fun z => ?_⟩
        · replace h1 := h1.1 z
          replace h2 := h2.1 z
          obtain ⟨m, hm, hi⟩ := h1
          exact ⟨m, hm, hi, h2⟩
        · replace h1 := h1.2 z
          replace h2 := h2.2 z
          obtain ⟨m, hm, hi⟩ := h1
          exact ⟨m, hm, hi, h2⟩
  · intro n g v95_2 v95_3 v95_5 s95_0 e0 e1 e2 e3 e4 e5 e6 e7 hI
    have h1 := h1_3 n g v95_2 v95_3 v95_5 s95_0 e0 e1 e2 e3 e4 e5 e6 e7 hI.1
    have h2 := h2_3 g v95_2 v95_3 v95_5 s95_0 e0 e1 e2 e3 e4 e5 e6 e7 hI.2
    clear h1E h2E hI h1_0 h2_0 h1_1 h2_1 h1_2 h2_2 h1_3 h2_3 h1_4 h2_4 h1_5 h2_5
    refine ⟨fun z => ?_, fun z => ?_⟩
    · replace h1 := h1.1 z
      replace h2 := h2.1 z
      obtain ⟨P1, c1, h1⟩ := h1
      refine ⟨P1, c1, ?_⟩
      intro g65 a3_0 a3_1 x67 a3_2
      replace h1 := h1 g65 a3_0 a3_1 x67 a3_2
      replace h2 := h2 g65 a3_0 x67 a3_2
      obtain ⟨m, hm, hi⟩ := h1
      exact ⟨m, hm, hi, h2⟩
    · replace h1 := h1.2 z
      replace h2 := h2.2 z
      obtain ⟨m, hm, hi⟩ := h1
      exact ⟨m, hm, hi, h2⟩
  · intro n g v115_2 v115_3 e0 e1 e2 e3 hI
    have h1 := h1_4 n g v115_2 v115_3 e0 e1 e2 e3 hI.1
    have h2 := h2_4 g v115_2 v115_3 e0 e1 e2 e3 hI.2
    clear h1E h2E hI h1_0 h2_0 h1_1 h2_1 h1_2 h2_2 h1_3 h2_3 h1_4 h2_4 h1_5 h2_5
    refine ⟨fun z => ?_, fun z => ?_⟩
    · replace h1 := h1.1 z
      replace h2 := h2.1 z
      intro b70 a3_0 a3_1
      replace h1 := h1 b70 a3_0 a3_1
      replace h2 := h2 b70 a3_0 a3_1
      obtain ⟨P1, c1, h1⟩ := h1
      refine ⟨P1, c1, ?_⟩
      intro g79 a3_0 a3_1
      replace h1 := h1 g79 a3_0 a3_1
      replace h2 := h2 g79 a3_0
      obtain ⟨m, hm, hi⟩ := h1
      exact ⟨m, hm, hi, h2⟩
    · replace h1 := h1.2 z
      replace h2 := h2.2 z
      obtain ⟨m, hm, hi⟩ := h1
      exact ⟨m, hm, hi, h2⟩
  · intro n g v130_3 e0 e1 e2 hI
    have h1 := h1_5 n g v130_3 e0 e1 e2 hI.1
    have h2 := h2_5 g v130_3 e0 e1 e2 hI.2
    clear h1E h2E hI h1_0 h2_0 h1_1 h2_1 h1_2 h2_2 h1_3 h2_3 h1_4 h2_4 h1_5 h2_5
    obtain ⟨P1, c1, h1⟩ := h1
    refine ⟨P1, c1, ?_⟩
    intro x86 a2_0 a2_1 g89 a2_2 a2_3
    replace h1 := h1 x86 a2_0 a2_1 g89 a2_2 a2_3
    replace h2 := h2 x86 a2_0 a2_1 g89 a2_2
    refine ⟨fun z => ?_, fun z => ?_⟩
    · replace h1 := h1.1 z
      replace h2 := h2.1 z
      obtain ⟨P1, c1, h1⟩ := h1
      refine ⟨P1, c1, ?_⟩
      intro g97 a3_0 a3_1 x99 a3_2
      replace h1 := h1 g97 a3_0 a3_1 x99 a3_2
      replace h2 := h2 g97 a3_0 x99 a3_2
      obtain ⟨m, hm, hi⟩ := h1
      exact ⟨m, hm, hi, h2⟩
    · replace h1 := h1.2 z
      replace h2 := h2.2 z
      obtain ⟨P1, c1, h1⟩ := h1
      refine ⟨P1, c1, ?_⟩
      intro x106 a3_0 a3_1 g109 a3_2 a3_3
      replace h1 := h1 x106 a3_0 a3_1 g109 a3_2 a3_3
      replace h2 := h2 x106 a3_0 a3_1 g109 a3_2
      refine ⟨fun z => ?_, fun z => ?_⟩
      · replace h1 := h1.1 z
        replace h2 := h2.1 z
        obtain ⟨P1, c1, h1⟩ := h1
        refine ⟨P1, c1, ?_⟩
        intro g117 a4_0 a4_1 x119 a4_2
        replace h1 := h1 g117 a4_0 a4_1 x119 a4_2
        replace h2 := h2 g117 a4_0 x119 a4_2
        obtain ⟨m, hm, hi⟩ := h1
        exact ⟨m, hm, hi, h2⟩
      · replace h1 := h1.2 z
        replace h2 := h2.2 z
        exact ⟨h1, h2⟩
set_option maxRecDepth 100000 in
def p_1298_c5 (s0 : zF) (Q : Int → zF → Prop) : Prop :=
  ∃ (I73 : zF → Int → Prop) (I85 : zF → Int → Prop) (I99 : zF → Int → Int → Prop),
    (∀ x192 : Int, x192 = s0 (2) 7 → 0 ≤ x192 → x192 ≤ 1600 → ∀ x199 : Int, x199 = s0 (4) x192.toNat → 0 ≤ x199 → x199 ≤ 5 → (¬ x199 = 4 → ∀ x206 : Int, (-1) ≤ x206 → x206 ≤ 26 → ∀ g209 : zF, zFr [] s0 g209 → (¬ x206 = (-1) → (x206 < 7 → ∀ b213 : Nat, (b213 : Int) = g209 (2) 8 → (b213 = 7 ∨ b213 = 28) → ∀ x217 : Int, x217 = (-1) - x206 → ∀ g224 : zF, zFr [(b213 + 13, b213 + 14, 1), (b213 + 14, b213 + 15, 1000)] g209 g224 → ∀ g231 : zF, zFr [(2, 3, 7)] g224 g231 → Q 1 g231) ∧ (7 ≤ x206 → I73 g209 x206)) ∧ (x206 = (-1) → I73 g209 x206)) ∧ (x199 = 4 → ∀ b233 : Nat, (b233 : Int) = s0 (2) 8 → (b233 = 7 ∨ b233 = 28) → ∀ x240 : Int, x240 = s0 (5) x192.toNat → ∀ g246 : zF, zFr [(b233 + 13, b233 + 14, 1), (b233 + 14, b233 + 15, 1000)] s0 g246 → ∀ g253 : zF, zFr [(2, 3, 7)] g246 g253 → Q 1 g253)) ∧
    (∀ (g : zF) (v73_2 : Int), zFr [(2, 3, 0), (2, 3, 1), (20, 21, 1), (41, 42, 1), (21, 22, 1000), (42, 43, 1000), (2, 3, 7)] s0 g → (-1) ≤ v73_2 → v73_2 ≤ 26 → I73 g v73_2 → (¬ v73_2 = 25 → (¬ v73_2 = 26 → I99 g v73_2 0) ∧ (v73_2 = 26 → I85 g v73_2)) ∧ (v73_2 = 25 → I85 g v73_2)) ∧
    (∀ (g : zF) (v85_2 : Int), zFr [(2, 3, 0), (2, 3, 1), (20, 21, 1), (41, 42, 1), (21, 22, 1000), (42, 43, 1000), (2, 3, 7)] s0 g → 25 ≤ v85_2 → v85_2 ≤ 26 → I85 g v85_2 → ∀ g8 : zF, zFr [(2, 3, 7)] g g8 → I99 g8 v85_2 1) ∧
    (∀ (g : zF) (v99_2 : Int) (v99_3 : Int), zFr [(2, 3, 0), (2, 3, 1), (20, 21, 1), (41, 42, 1), (21, 22, 1000), (42, 43, 1000), (2, 3, 7)] s0 g → (-1) ≤ v99_2 → v99_2 ≤ 26 → 0 ≤ v99_3 → v99_3 ≤ 1 → I99 g v99_2 v99_3 → ∀ x15 : Int, 0 ≤ x15 → x15 ≤ 1 → ∀ g18 : zF, zFr [] g g18 → (¬ x15 = 0 → ∀ g26 : zF, zFr [(2, 3, 7)] g18 g26 → ∃ P30 : Int → zF → Prop, p_1297_c6 g26 P30 ∧ ∀ x33 : Int, 0 ≤ x33 → x33 ≤ 1 → ∀ g36 : zF, zFr [(2, 3, 0), (2, 3, 1), (20, 21, 1), (41, 42, 1), (21, 22, 1000), (42, 43, 1000), (2, 3, 7)] g26 g36 → P30 x33 g36 → (¬ x33 = 0 → (¬ v99_3 = 0 → ∀ x45 : Int, 0 ≤ x45 → x45 ≤ 1 → ∀ g48 : zF, zFr [] g36 g48 → (¬ x45 = 0 → ∀ g56 : zF, zFr [(2, 3, 7)] g48 g56 → ∃ P60 : Int → zF → Prop, p_1297_c6 g56 P60 ∧ ∀ x63 : Int, 0 ≤ x63 → x63 ≤ 1 → ∀ g66 : zF, zFr [(2, 3, 0), (2, 3, 1), (20, 21, 1), (41, 42, 1), (21, 22, 1000), (42, 43, 1000), (2, 3, 7)] g56 g66 → P60 x63 g66 → (¬ x63 = 0 → ∀ b69 : Nat, (b69 : Int) = g66 (2) 8 → (b69 = 7 ∨ b69 = 28) → (¬ v99_2 = 25 → ∀ g79 : zF, zFr [(b69 + 13, b69 + 14, 1), (b69 + 14, b69 + 15, 1000)] g66 g79 → ∀ x86 : Int, 0 ≤ x86 → x86 ≤ 1 → ∀ g89 : zF, zFr [] g79 g89 → (¬ x86 = 0 → ∀ g97 : zF, zFr [(2, 3, 7)] g89 g97 → Q 1 g97) ∧ (x86 = 0 → ∀ x104 : Int, 0 ≤ x104 → x104 ≤ 0 → ∀ g107 : zF, zFr [(2, 3, 0), (2, 3, 1)] g89 g107 → Q x104 g107)) ∧ (v99_2 = 25 → ∀ g114 : zF, zFr [(b69 + 13, b69 + 14, 1), (b69 + 14, b69 + 15, 1000)] g66 g114 → ∀ x121 : Int, 0 ≤ x121 → x121 ≤ 1 → ∀ g124 : zF, zFr [] g114 g124 → (¬ x121 = 0 → ∀ g132 : zF, zFr [(2, 3, 7)] g124 g132 → Q 1 g132) ∧ (x121 = 0 → ∀ x139 : Int, 0 ≤ x139 → x139 ≤ 0 → ∀ g142 : zF, zFr [(2, 3, 0), (2, 3, 1)] g124 g142 → Q x139 g142))) ∧ (x63 = 0 → Q 0 g66)) ∧ (x45 = 0 → ∀ x149 : Int, 0 ≤ x149 → x149 ≤ 0 → ∀ g152 : zF, zFr [(2, 3, 0), (2, 3, 1)] g48 g152 → Q x149 g152)) ∧ (v99_3 = 0 → ∀ x159 : Int, 0 ≤ x159 → x159 ≤ 1 → ∀ g162 : zF, zFr [] g36 g162 → (¬ x159 = 0 → ∀ g170 : zF, zFr [(2, 3, 7)] g162 g170 → Q 1 g170) ∧ (x159 = 0 → ∀ x177 : Int, 0 ≤ x177 → x177 ≤ 0 → ∀ g180 : zF, zFr [(2, 3, 0), (2, 3, 1)] g162 g180 → Q x177 g180))) ∧ (x33 = 0 → Q 0 g36)) ∧ (x15 = 0 → ∀ x187 : Int, 0 ≤ x187 → x187 ≤ 0 → ∀ g190 : zF, zFr [(2, 3, 0), (2, 3, 1)] g18 g190 → Q x187 g190))
set_option maxRecDepth 100000 in
theorem cj_1298_c5 {s0 : zF} {Q1 Q2 : Int → zF → Prop} (h1 : b_1298_c5 s0 Q1) (h2 : p_1298_c5 s0 Q2) : b_1298_c5 s0 (fun v g => Q1 v g ∧ Q2 v g) := by
  obtain ⟨I73, I85, I99, h1E, h1_0, h1_1, h1_2⟩ := h1
  obtain ⟨J73, J85, J99, h2E, h2_0, h2_1, h2_2⟩ := h2
  refine ⟨fun n g y0 => I73 n g y0 ∧ J73 g y0, fun n g y0 => I85 n g y0 ∧ J85 g y0, fun n g y0 y1 => I99 n g y0 y1 ∧ J99 g y0 y1, ?_, ?_, ?_, ?_⟩
  · have h1 := h1E
    have h2 := h2E
    clear h1E h2E h1_0 h2_0 h1_1 h2_1 h1_2 h2_2
    intro x192 a2_0 a2_1 a2_2 x199 a2_3 a2_4 a2_5
    replace h1 := h1 x192 a2_0 a2_1 a2_2 x199 a2_3 a2_4 a2_5
    replace h2 := h2 x192 a2_0 a2_1 a2_2 x199 a2_3 a2_4 a2_5
    refine ⟨fun z => ?_, fun z => ?_⟩
    · replace h1 := h1.1 z
      replace h2 := h2.1 z
      obtain ⟨P1, c1, h1⟩ := h1
      refine ⟨P1, c1, ?_⟩
      intro x206 a3_0 a3_1 g209 a3_2 a3_3
      replace h1 := h1 x206 a3_0 a3_1 g209 a3_2 a3_3
      replace h2 := h2 x206 a3_0 a3_1 g209 a3_2
      refine ⟨fun z => ?_, fun z => ?_⟩
      · replace h1 := h1.1 z
        replace h2 := h2.1 z
        refine ⟨fun z => ?_, fun z => ?_⟩
        · replace h1 := h1.1 z
          replace h2 := h2.1 z
          intro b213 a5_0 a5_1 x217 a5_2
          replace h1 := h1 b213 a5_0 a5_1 x217 a5_2
          replace h2 := h2 b213 a5_0 a5_1 x217 a5_2
          obtain ⟨P1, c1, h1⟩ := h1
          refine ⟨P1, c1, ?_⟩
          intro g224 a5_0 a5_1
          replace h1 := h1 g224 a5_0 a5_1
          replace h2 := h2 g224 a5_0
          obtain ⟨P1, c1, h1⟩ := h1
          refine ⟨P1, c1, ?_⟩
          intro g231 a5_0 a5_1
          replace h1 := h1 g231 a5_0 a5_1
          replace h2 := h2 g231 a5_0
          exact ⟨h1, h2⟩
        · replace h1 := h1.2 z
          replace h2 := h2.2 z
          obtain ⟨m, hi⟩ := h1
          exact ⟨m, hi, h2⟩
      · replace h1 := h1.2 z
        replace h2 := h2.2 z
        obtain ⟨m, hi⟩ := h1
        exact ⟨m, hi, h2⟩
    · replace h1 := h1.2 z
      replace h2 := h2.2 z
      intro b233 a3_0 a3_1 x240 a3_2
      replace h1 := h1 b233 a3_0 a3_1 x240 a3_2
      replace h2 := h2 b233 a3_0 a3_1 x240 a3_2
      obtain ⟨P1, c1, h1⟩ := h1
      refine ⟨P1, c1, ?_⟩
      intro g246 a3_0 a3_1
      replace h1 := h1 g246 a3_0 a3_1
      replace h2 := h2 g246 a3_0
      obtain ⟨P1, c1, h1⟩ := h1
      refine ⟨P1, c1, ?_⟩
      intro g253 a3_0 a3_1
      replace h1 := h1 g253 a3_0 a3_1
      replace h2 := h2 g253 a3_0
      exact ⟨h1, h2⟩
  · intro n g v73_2 e0 e1 e2 hI
    have h1 := h1_0 n g v73_2 e0 e1 e2 hI.1
    have h2 := h2_0 g v73_2 e0 e1 e2 hI.2
    clear h1E h2E hI h1_0 h2_0 h1_1 h2_1 h1_2 h2_2
    refine ⟨fun z => ?_, fun z => ?_⟩
    · replace h1 := h1.1 z
      replace h2 := h2.1 z
      refine ⟨fun z => ?_, fun z => ?_⟩
      · replace h1 := h1.1 z
        replace h2 := h2.1 z
        obtain ⟨m, hm, hi⟩ := h1
        exact ⟨m, hm, hi, h2⟩
      · replace h1 := h1.2 z
        replace h2 := h2.2 z
        obtain ⟨m, hm, hi⟩ := h1
        exact ⟨m, hm, hi, h2⟩
    · replace h1 := h1.2 z
      replace h2 := h2.2 z
      obtain ⟨m, hm, hi⟩ := h1
      exact ⟨m, hm, hi, h2⟩
  · intro n g v85_2 e0 e1 e2 hI
    have h1 := h1_1 n g v85_2 e0 e1 e2 hI.1
    have h2 := h2_1 g v85_2 e0 e1 e2 hI.2
    clear h1E h2E hI h1_0 h2_0 h1_1 h2_1 h1_2 h2_2
    obtain ⟨P1, c1, h1⟩ := h1
    refine ⟨P1, c1, ?_⟩
    intro g8 a2_0 a2_1
    replace h1 := h1 g8 a2_0 a2_1
    replace h2 := h2 g8 a2_0
    obtain ⟨m, hm, hi⟩ := h1
    exact ⟨m, hm, hi, h2⟩
  · intro n g v99_2 v99_3 e0 e1 e2 e3 e4 hI
    have h1 := h1_2 n g v99_2 v99_3 e0 e1 e2 e3 e4 hI.1
    have h2 := h2_2 g v99_2 v99_3 e0 e1 e2 e3 e4 hI.2
    clear h1E h2E hI h1_0 h2_0 h1_1 h2_1 h1_2 h2_2
    obtain ⟨P1, c1, h1⟩ := h1
    refine ⟨P1, c1, ?_⟩
    intro x15 a2_0 a2_1 g18 a2_2 a2_3
    replace h1 := h1 x15 a2_0 a2_1 g18 a2_2 a2_3
    replace h2 := h2 x15 a2_0 a2_1 g18 a2_2
    refine ⟨fun z => ?_, fun z => ?_⟩
    · replace h1 := h1.1 z
      replace h2 := h2.1 z
      obtain ⟨P1, c1, h1⟩ := h1
      refine ⟨P1, c1, ?_⟩
      intro g26 a3_0 a3_1
      replace h1 := h1 g26 a3_0 a3_1
      replace h2 := h2 g26 a3_0
      obtain ⟨P1, c1, h1⟩ := h1
      obtain ⟨P2, c2, h2⟩ := h2
      refine ⟨fun v g => P1 v g ∧ P2 v g, cj_1297_c6 c1 c2, ?_⟩
      intro x33 a3_0 a3_1 g36 a3_2 a3_3
      replace h1 := h1 x33 a3_0 a3_1 g36 a3_2 a3_3.1
      replace h2 := h2 x33 a3_0 a3_1 g36 a3_2 a3_3.2
      refine ⟨fun z => ?_, fun z => ?_⟩
      · replace h1 := h1.1 z
        replace h2 := h2.1 z
        refine ⟨fun z => ?_, fun z => ?_⟩
        · replace h1 := h1.1 z
          replace h2 := h2.1 z
          obtain ⟨P1, c1, h1⟩ := h1
          refine ⟨P1, c1, ?_⟩
          intro x45 a5_0 a5_1 g48 a5_2 a5_3
          replace h1 := h1 x45 a5_0 a5_1 g48 a5_2 a5_3
          replace h2 := h2 x45 a5_0 a5_1 g48 a5_2
          refine ⟨fun z => ?_, fun z => ?_⟩
          · replace h1 := h1.1 z
            replace h2 := h2.1 z
            obtain ⟨P1, c1, h1⟩ := h1
            refine ⟨P1, c1, ?_⟩
            intro g56 a6_0 a6_1
            replace h1 := h1 g56 a6_0 a6_1
            replace h2 := h2 g56 a6_0
            obtain ⟨P1, c1, h1⟩ := h1
            obtain ⟨P2, c2, h2⟩ := h2
            refine ⟨fun v g => P1 v g ∧ P2 v g, cj_1297_c6 c1 c2, ?_⟩
            intro x63 a6_0 a6_1 g66 a6_2 a6_3
            replace h1 := h1 x63 a6_0 a6_1 g66 a6_2 a6_3.1
            replace h2 := h2 x63 a6_0 a6_1 g66 a6_2 a6_3.2
            refine ⟨fun z => ?_, fun z => ?_⟩
            · replace h1 := h1.1 z
              replace h2 := h2.1 z
              intro b69 a7_0 a7_1
              replace h1 := h1 b69 a7_0 a7_1
              replace h2 := h2 b69 a7_0 a7_1
              refine ⟨fun z => ?_, fun z => ?_⟩
              · replace h1 := h1.1 z
                replace h2 := h2.1 z
                obtain ⟨P1, c1, h1⟩ := h1
                refine ⟨P1, c1, ?_⟩
                intro g79 a8_0 a8_1
                replace h1 := h1 g79 a8_0 a8_1
                replace h2 := h2 g79 a8_0
                obtain ⟨P1, c1, h1⟩ := h1
                refine ⟨P1, c1, ?_⟩
                intro x86 a8_0 a8_1 g89 a8_2 a8_3
                replace h1 := h1 x86 a8_0 a8_1 g89 a8_2 a8_3
                replace h2 := h2 x86 a8_0 a8_1 g89 a8_2
                refine ⟨fun z => ?_, fun z => ?_⟩
                · replace h1 := h1.1 z
                  replace h2 := h2.1 z
                  obtain ⟨P1, c1, h1⟩ := h1
                  refine ⟨P1, c1, ?_⟩
                  intro g97 a9_0 a9_1
                  replace h1 := h1 g97 a9_0 a9_1
                  replace h2 := h2 g97 a9_0
                  exact ⟨h1, h2⟩
                · replace h1 := h1.2 z
                  replace h2 := h2.2 z
                  obtain ⟨P1, c1, h1⟩ := h1
                  refine ⟨P1, c1, ?_⟩
                  intro x104 a9_0 a9_1 g107 a9_2 a9_3
                  replace h1 := h1 x104 a9_0 a9_1 g107 a9_2 a9_3
                  replace h2 := h2 x104 a9_0 a9_1 g107 a9_2
                  exact ⟨h1, h2⟩
              · replace h1 := h1.2 z
                replace h2 := h2.2 z
                obtain ⟨P1, c1, h1⟩ := h1
                refine ⟨P1, c1, ?_⟩
                intro g114 a8_0 a8_1
                replace h1 := h1 g114 a8_0 a8_1
                replace h2 := h2 g114 a8_0
                obtain ⟨P1, c1, h1⟩ := h1
                refine ⟨P1, c1, ?_⟩
                intro x121 a8_0 a8_1 g124 a8_2 a8_3
                replace h1 := h1 x121 a8_0 a8_1 g124 a8_2 a8_3
                replace h2 := h2 x121 a8_0 a8_1 g124 a8_2
                refine ⟨fun z => ?_, fun z => ?_⟩
                · replace h1 := h1.1 z
                  replace h2 := h2.1 z
                  obtain ⟨P1, c1, h1⟩ := h1
                  refine ⟨P1, c1, ?_⟩
                  intro g132 a9_0 a9_1
                  replace h1 := h1 g132 a9_0 a9_1
                  replace h2 := h2 g132 a9_0
                  exact ⟨h1, h2⟩
                · replace h1 := h1.2 z
                  replace h2 := h2.2 z
                  obtain ⟨P1, c1, h1⟩ := h1
                  refine ⟨P1, c1, ?_⟩
                  intro x139 a9_0 a9_1 g142 a9_2 a9_3
                  replace h1 := h1 x139 a9_0 a9_1 g142 a9_2 a9_3
                  replace h2 := h2 x139 a9_0 a9_1 g142 a9_2
                  exact ⟨h1, h2⟩
            · replace h1 := h1.2 z
              replace h2 := h2.2 z
              exact ⟨h1, h2⟩
          · replace h1 := h1.2 z
            replace h2 := h2.2 z
            obtain ⟨P1, c1, h1⟩ := h1
            refine ⟨P1, c1, ?_⟩
            intro x149 a6_0 a6_1 g152 a6_2 a6_3
            replace h1 := h1 x149 a6_0 a6_1 g152 a6_2 a6_3
            replace h2 := h2 x149 a6_0 a6_1 g152 a6_2
            exact ⟨h1, h2⟩
        · replace h1 := h1.2 z
          replace h2 := h2.2 z
          obtain ⟨P1, c1, h1⟩ := h1
          refine ⟨P1, c1, ?_⟩
          intro x159 a5_0 a5_1 g162 a5_2 a5_3
          replace h1 := h1 x159 a5_0 a5_1 g162 a5_2 a5_3
          replace h2 := h2 x159 a5_0 a5_1 g162 a5_2
          refine ⟨fun z => ?_, fun z => ?_⟩
          · replace h1 := h1.1 z
            replace h2 := h2.1 z
            obtain ⟨P1, c1, h1⟩ := h1
            refine ⟨P1, c1, ?_⟩
            intro g170 a6_0 a6_1
            replace h1 := h1 g170 a6_0 a6_1
            replace h2 := h2 g170 a6_0
            exact ⟨h1, h2⟩
          · replace h1 := h1.2 z
            replace h2 := h2.2 z
            obtain ⟨P1, c1, h1⟩ := h1
            refine ⟨P1, c1, ?_⟩
            intro x177 a6_0 a6_1 g180 a6_2 a6_3
            replace h1 := h1 x177 a6_0 a6_1 g180 a6_2 a6_3
            replace h2 := h2 x177 a6_0 a6_1 g180 a6_2
            exact ⟨h1, h2⟩
      · replace h1 := h1.2 z
        replace h2 := h2.2 z
        exact ⟨h1, h2⟩
    · replace h1 := h1.2 z
      replace h2 := h2.2 z
      obtain ⟨P1, c1, h1⟩ := h1
      refine ⟨P1, c1, ?_⟩
      intro x187 a3_0 a3_1 g190 a3_2 a3_3
      replace h1 := h1 x187 a3_0 a3_1 g190 a3_2 a3_3
      replace h2 := h2 x187 a3_0 a3_1 g190 a3_2
      exact ⟨h1, h2⟩
set_option maxRecDepth 100000 in
def p_1297_c5 (s0 : zF) (Q : Int → zF → Prop) : Prop :=
  ∃ (I4 : zF → Int → Int → Prop) (I17 : zF → Int → Int → Int → Int → Prop) (I52 : zF → Int → Int → Int → Prop) (I95 : zF → Int → Int → Int → Int → Prop) (I115 : zF → Int → Int → Prop) (I130 : zF → Int → Prop),
    (I4 s0 0 0) ∧
    (∀ (g : zF) (v4_2 : Int) (v4_3 : Int), zFr [(2, 3, 0), (2, 3, 1), (20, 21, 1), (41, 42, 1), (21, 22, 1000), (42, 43, 1000), (2, 3, 7)] s0 g → (-13) ≤ v4_2 → v4_2 ≤ 0 → 0 ≤ v4_3 → v4_3 ≤ 1601 → I4 g v4_2 v4_3 → (1600 < v4_3 → Q 1 g) ∧ (v4_3 ≤ 1600 → I17 g v4_2 v4_3 0 0)) ∧
    (∀ (g : zF) (v17_2 : Int) (v17_3 : Int) (v17_4 : Int) (v17_5 : Int), zFr [(2, 3, 0), (2, 3, 1), (20, 21, 1), (41, 42, 1), (21, 22, 1000), (42, 43, 1000), (2, 3, 7)] s0 g → v17_2 ≤ 0 → 0 ≤ v17_3 → v17_3 ≤ 1600 → (-11) ≤ v17_4 → v17_4 ≤ 0 → 0 ≤ v17_5 → v17_5 ≤ 1601 → I17 g v17_2 v17_3 v17_4 v17_5 → (1600 < v17_5 → I115 g v17_2 v17_3) ∧ (v17_5 ≤ 1600 → ∃ P5 : Int → zF → Prop, p_1298_c5 g P5 ∧ ∀ x8 : Int, 0 ≤ x8 → x8 ≤ 1 → ∀ g11 : zF, zFr [(2, 3, 0), (2, 3, 1), (20, 21, 1), (41, 42, 1), (21, 22, 1000), (42, 43, 1000), (2, 3, 7)] g g11 → P5 x8 g11 → (¬ x8 = 0 → (¬ v17_4 = 0 → ∀ b15 : Nat, (b15 : Int) = g11 (2) 8 → (b15 = 7 ∨ b15 = 28) → ∀ g24 : zF, zFr [(b15 + 13, b15 + 14, 1), (b15 + 14, b15 + 15, 1000)] g11 g24 → I52 g24 v17_2 v17_3 v17_5) ∧ (v17_4 = 0 → I52 g11 v17_2 v17_3 v17_5)) ∧ (x8 = 0 → Q 0 g11))) ∧
    (∀ (g : zF) (v52_2 : Int) (v52_3 : Int) (v52_5 : Int), zFr [(2, 3, 0), (2, 3, 1), (20, 21, 1), (41, 42, 1), (21, 22, 1000), (42, 43, 1000), (2, 3, 7)] s0 g → v52_2 ≤ 0 → 0 ≤ v52_3 → v52_3 ≤ 1600 → 0 ≤ v52_5 → v52_5 ≤ 1600 → I52 g v52_2 v52_3 v52_5 → ∀ x31 : Int, 0 ≤ x31 → x31 ≤ 1 → ∀ g34 : zF, zFr [] g g34 → (¬ x31 = 0 → I95 g34 v52_2 v52_3 v52_5 (-9)) ∧ (x31 = 0 → ∀ x42 : Int, 0 ≤ x42 → x42 ≤ 1 → ∀ g45 : zF, zFr [] g34 g45 → (¬ x42 = 0 → I95 g45 v52_2 v52_3 v52_5 (-10)) ∧ (x42 = 0 → ∀ x53 : Int, 0 ≤ x53 → x53 ≤ 1 → ∀ g56 : zF, zFr [] g45 g56 → (¬ x53 = 0 → I95 g56 v52_2 v52_3 v52_5 (-11)) ∧ (x53 = 0 → I95 g56 v52_2 v52_3 v52_5 0)))) ∧
    (∀ (g : zF) (v95_2 : Int) (v95_3 : Int) (v95_5 : Int) (s95_0 : Int), zFr [(2, 3, 0), (2, 3, 1), (20, 21, 1), (41, 42, 1), (21, 22, 1000), (42, 43, 1000), (2, 3, 7)] s0 g → v95_2 ≤ 0 → 0 ≤ v95_3 → v95_3 ≤ 1600 → 0 ≤ v95_5 → v95_5 ≤ 1600 → (-11) ≤ s95_0 → s95_0 ≤ 0 → I95 g v95_2 v95_3 v95_5 s95_0 → (¬ s95_0 = 0 → ∀ g65 : zF, zFr [(2, 3, 7)] g g65 → ∀ x67 : Int, x67 = v95_5 + 1 → I17 g65 v95_2 v95_3 s95_0 x67) ∧ (s95_0 = 0 → I115 g v95_2 v95_3)) ∧
    (∀ (g : zF) (v115_2 : Int) (v115_3 : Int), zFr [(2, 3, 0), (2, 3, 1), (20, 21, 1), (41, 42, 1), (21, 22, 1000), (42, 43, 1000), (2, 3, 7)] s0 g → v115_2 ≤ 0 → 0 ≤ v115_3 → v115_3 ≤ 1600 → I115 g v115_2 v115_3 → (¬ v115_2 = 0 → ∀ b70 : Nat, (b70 : Int) = g (2) 8 → (b70 = 7 ∨ b70 = 28) → ∀ g79 : zF, zFr [(b70 + 13, b70 + 14, 1), (b70 + 14, b70 + 15, 1000)] g g79 → I130 g79 v115_3) ∧ (v115_2 = 0 → I130 g v115_3)) ∧
    (∀ (g : zF) (v130_3 : Int), zFr [(2, 3, 0), (2, 3, 1), (20, 21, 1), (41, 42, 1), (21, 22, 1000), (42, 43, 1000), (2, 3, 7)] s0 g → 0 ≤ v130_3 → v130_3 ≤ 1600 → I130 g v130_3 → ∀ x86 : Int, 0 ≤ x86 → x86 ≤ 1 → ∀ g89 : zF, zFr [] g g89 → (¬ x86 = 0 → ∀ g97 : zF, zFr [(2, 3, 7)] g89 g97 → ∀ x99 : Int, x99 = v130_3 + 1 → I4 g97 (-12) x99) ∧ (x86 = 0 → ∀ x106 : Int, 0 ≤ x106 → x106 ≤ 1 → ∀ g109 : zF, zFr [] g89 g109 → (¬ x106 = 0 → ∀ g117 : zF, zFr [(2, 3, 7)] g109 g117 → ∀ x119 : Int, x119 = v130_3 + 1 → I4 g117 (-13) x119) ∧ (x106 = 0 → Q 1 g109)))
set_option maxRecDepth 100000 in
theorem cj_1297_c5 {s0 : zF} {Q1 Q2 : Int → zF → Prop} (h1 : b_1297_c5 s0 Q1) (h2 : p_1297_c5 s0 Q2) : b_1297_c5 s0 (fun v g => Q1 v g ∧ Q2 v g) := by
  obtain ⟨I4, I17, I52, I95, I115, I130, h1E, h1_0, h1_1, h1_2, h1_3, h1_4, h1_5⟩ := h1
  obtain ⟨J4, J17, J52, J95, J115, J130, h2E, h2_0, h2_1, h2_2, h2_3, h2_4, h2_5⟩ := h2
  refine ⟨fun n g y0 y1 => I4 n g y0 y1 ∧ J4 g y0 y1, fun n g y0 y1 y2 y3 => I17 n g y0 y1 y2 y3 ∧ J17 g y0 y1 y2 y3, fun n g y0 y1 y2 => I52 n g y0 y1 y2 ∧ J52 g y0 y1 y2, fun n g y0 y1 y2 y3 => I95 n g y0 y1 y2 y3 ∧ J95 g y0 y1 y2 y3, fun n g y0 y1 => I115 n g y0 y1 ∧ J115 g y0 y1, fun n g y0 => I130 n g y0 ∧ J130 g y0, ?_, ?_, ?_, ?_, ?_, ?_, ?_⟩
  · have h1 := h1E
    have h2 := h2E
    clear h1E h2E h1_0 h2_0 h1_1 h2_1 h1_2 h2_2 h1_3 h2_3 h1_4 h2_4 h1_5 h2_5
    obtain ⟨m, hi⟩ := h1
    exact ⟨m, hi, h2⟩
  · intro n g v4_2 v4_3 e0 e1 e2 e3 e4 hI
    have h1 := h1_0 n g v4_2 v4_3 e0 e1 e2 e3 e4 hI.1
    have h2 := h2_0 g v4_2 v4_3 e0 e1 e2 e3 e4 hI.2
    clear h1E h2E hI h1_0 h2_0 h1_1 h2_1 h1_2 h2_2 h1_3 h2_3 h1_4 h2_4 h1_5 h2_5
    refine ⟨fun z => ?_, fun z => ?_⟩
    · replace h1 := h1.1 z
      replace h2 := h2.1 z
      exact ⟨h1, h2⟩
    · replace h1 := h1.2 z
      replace h2 := h2.2 z
      obtain ⟨m, hm, hi⟩ := h1
      exact ⟨m, hm, hi, h2⟩
  · intro n g v17_2 v17_3 v17_4 v17_5 e0 e1 e2 e3 e4 e5 e6 e7 hI
    have h1 := h1_1 n g v17_2 v17_3 v17_4 v17_5 e0 e1 e2 e3 e4 e5 e6 e7 hI.1
    have h2 := h2_1 g v17_2 v17_3 v17_4 v17_5 e0 e1 e2 e3 e4 e5 e6 e7 hI.2
    clear h1E h2E hI h1_0 h2_0 h1_1 h2_1 h1_2 h2_2 h1_3 h2_3 h1_4 h2_4 h1_5 h2_5
    refine ⟨fun z => ?_, fun z => ?_⟩
    · replace h1 := h1.1 z
      replace h2 := h2.1 z
      obtain ⟨m, hm, hi⟩ := h1
      exact ⟨m, hm, hi, h2⟩
    · replace h1 := h1.2 z
      replace h2 := h2.2 z
      obtain ⟨P1, c1, h1⟩ := h1
      obtain ⟨P2, c2, h2⟩ := h2
      refine ⟨fun v g => P1 v g ∧ P2 v g, cj_1298_c5 c1 c2, ?_⟩
      intro x8 a3_0 a3_1 g11 a3_2 a3_3
      replace h1 := h1 x8 a3_0 a3_1 g11 a3_2 a3_3.1
      replace h2 := h2 x8 a3_0 a3_1 g11 a3_2 a3_3.2
      refine ⟨fun z => ?_, fun z => ?_⟩
      · replace h1 := h1.1 z
        replace h2 := h2.1 z
        refine ⟨fun z => ?_, fun z => ?_⟩
        · replace h1 := h1.1 z
          replace h2 := h2.1 z
          intro b15 a5_0 a5_1
          replace h1 := h1 b15 a5_0 a5_1
          replace h2 := h2 b15 a5_0 a5_1
          obtain ⟨P1, c1, h1⟩ := h1
          refine ⟨P1, c1, ?_⟩
          intro g24 a5_0 a5_1
          replace h1 := h1 g24 a5_0 a5_1
          replace h2 := h2 g24 a5_0
          obtain ⟨m, hm, hi⟩ := h1
          exact ⟨m, hm, hi, h2⟩
        · replace h1 := h1.2 z
          replace h2 := h2.2 z
          obtain ⟨m, hm, hi⟩ := h1
          exact ⟨m, hm, hi, h2⟩
      · replace h1 := h1.2 z
        replace h2 := h2.2 z
        exact ⟨h1, h2⟩
  · intro n g v52_2 v52_3 v52_5 e0 e1 e2 e3 e4 e5 hI
    have h1 := h1_2 n g v52_2 v52_3 v52_5 e0 e1 e2 e3 e4 e5 hI.1
    have h2 := h2_2 g v52_2 v52_3 v52_5 e0 e1 e2 e3 e4 e5 hI.2
    clear h1E h2E hI h1_0 h2_0 h1_1 h2_1 h1_2 h2_2 h1_3 h2_3 h1_4 h2_4 h1_5 h2_5
    obtain ⟨P1, c1, h1⟩ := h1
    refine ⟨P1, c1, ?_⟩
    intro x31 a2_0 a2_1 g34 a2_2 a2_3
    replace h1 := h1 x31 a2_0 a2_1 g34 a2_2 a2_3
    replace h2 := h2 x31 a2_0 a2_1 g34 a2_2
    refine ⟨fun z => ?_, fun z => ?_⟩
    · replace h1 := h1.1 z
      replace h2 := h2.1 z
      obtain ⟨m, hm, hi⟩ := h1
      exact ⟨m, hm, hi, h2⟩
    · replace h1 := h1.2 z
      replace h2 := h2.2 z
      obtain ⟨P1, c1, h1⟩ := h1
      refine ⟨P1, c1, ?_⟩
      intro x42 a3_0 a3_1 g45 a3_2 a3_3
      replace h1 := h1 x42 a3_0 a3_1 g45 a3_2 a3_3
      replace h2 := h2 x42 a3_0 a3_1 g45 a3_2
      refine ⟨fun z => ?_, fun z => ?_⟩
      · replace h1 := h1.1 z
        replace h2 := h2.1 z
        obtain ⟨m, hm, hi⟩ := h1
        exact ⟨m, hm, hi, h2⟩
      · replace h1 := h1.2 z
        replace h2 := h2.2 z
        obtain ⟨P1, c1, h1⟩ := h1
        refine ⟨P1, c1, ?_⟩
        intro x53 a4_0 a4_1 g56 a4_2 a4_3
        replace h1 := h1 x53 a4_0 a4_1 g56 a4_2 a4_3
        replace h2 := h2 x53 a4_0 a4_1 g56 a4_2
        refine ⟨fun z => ?_, fun z => ?_⟩
        · replace h1 := h1.1 z
          replace h2 := h2.1 z
          obtain ⟨m, hm, hi⟩ := h1
          exact ⟨m, hm, hi, h2⟩
        · replace h1 := h1.2 z
          replace h2 := h2.2 z
          obtain ⟨m, hm, hi⟩ := h1
          exact ⟨m, hm, hi, h2⟩
  · intro n g v95_2 v95_3 v95_5 s95_0 e0 e1 e2 e3 e4 e5 e6 e7 hI
    have h1 := h1_3 n g v95_2 v95_3 v95_5 s95_0 e0 e1 e2 e3 e4 e5 e6 e7 hI.1
    have h2 := h2_3 g v95_2 v95_3 v95_5 s95_0 e0 e1 e2 e3 e4 e5 e6 e7 hI.2
    clear h1E h2E hI h1_0 h2_0 h1_1 h2_1 h1_2 h2_2 h1_3 h2_3 h1_4 h2_4 h1_5 h2_5
    refine ⟨fun z => ?_, fun z => ?_⟩
    · replace h1 := h1.1 z
      replace h2 := h2.1 z
      obtain ⟨P1, c1, h1⟩ := h1
      refine ⟨P1, c1, ?_⟩
      intro g65 a3_0 a3_1 x67 a3_2
      replace h1 := h1 g65 a3_0 a3_1 x67 a3_2
      replace h2 := h2 g65 a3_0 x67 a3_2
      obtain ⟨m, hm, hi⟩ := h1
      exact ⟨m, hm, hi, h2⟩
    · replace h1 := h1.2 z
      replace h2 := h2.2 z
      obtain ⟨m, hm, hi⟩ := h1
      exact ⟨m, hm, hi, h2⟩
  · intro n g v115_2 v115_3 e0 e1 e2 e3 hI
    have h1 := h1_4 n g v115_2 v115_3 e0 e1 e2 e3 hI.1
    have h2 := h2_4 g v115_2 v115_3 e0 e1 e2 e3 hI.2
    clear h1E h2E hI h1_0 h2_0 h1_1 h2_1 h1_2 h2_2 h1_3 h2_3 h1_4 h2_4 h1_5 h2_5
    refine ⟨fun z => ?_, fun z => ?_⟩
    · replace h1 := h1.1 z
      replace h2 := h2.1 z
      intro b70 a3_0 a3_1
      replace h1 := h1 b70 a3_0 a3_1
      replace h2 := h2 b70 a3_0 a3_1
      obtain ⟨P1, c1, h1⟩ := h1
      refine ⟨P1, c1, ?_⟩
      intro g79 a3_0 a3_1
      replace h1 := h1 g79 a3_0 a3_1
      replace h2 := h2 g79 a3_0
      obtain ⟨m, hm, hi⟩ := h1
      exact ⟨m, hm, hi, h2⟩
    · replace h1 := h1.2 z
      replace h2 := h2.2 z
      obtain ⟨m, hm, hi⟩ := h1
      exact ⟨m, hm, hi, h2⟩
  · intro n g v130_3 e0 e1 e2 hI
    have h1 := h1_5 n g v130_3 e0 e1 e2 hI.1
    have h2 := h2_5 g v130_3 e0 e1 e2 hI.2
    clear h1E h2E hI h1_0 h2_0 h1_1 h2_1 h1_2 h2_2 h1_3 h2_3 h1_4 h2_4 h1_5 h2_5
    obtain ⟨P1, c1, h1⟩ := h1
    refine ⟨P1, c1, ?_⟩
    intro x86 a2_0 a2_1 g89 a2_2 a2_3
    replace h1 := h1 x86 a2_0 a2_1 g89 a2_2 a2_3
    replace h2 := h2 x86 a2_0 a2_1 g89 a2_2
    refine ⟨fun z => ?_, fun z => ?_⟩
    · replace h1 := h1.1 z
      replace h2 := h2.1 z
      obtain ⟨P1, c1, h1⟩ := h1
      refine ⟨P1, c1, ?_⟩
      intro g97 a3_0 a3_1 x99 a3_2
      replace h1 := h1 g97 a3_0 a3_1 x99 a3_2
      replace h2 := h2 g97 a3_0 x99 a3_2
      obtain ⟨m, hm, hi⟩ := h1
      exact ⟨m, hm, hi, h2⟩
    · replace h1 := h1.2 z
      replace h2 := h2.2 z
      obtain ⟨P1, c1, h1⟩ := h1
      refine ⟨P1, c1, ?_⟩
      intro x106 a3_0 a3_1 g109 a3_2 a3_3
      replace h1 := h1 x106 a3_0 a3_1 g109 a3_2 a3_3
      replace h2 := h2 x106 a3_0 a3_1 g109 a3_2
      refine ⟨fun z => ?_, fun z => ?_⟩
      · replace h1 := h1.1 z
        replace h2 := h2.1 z
        obtain ⟨P1, c1, h1⟩ := h1
        refine ⟨P1, c1, ?_⟩
        intro g117 a4_0 a4_1 x119 a4_2
        replace h1 := h1 g117 a4_0 a4_1 x119 a4_2
        replace h2 := h2 g117 a4_0 x119 a4_2
        obtain ⟨m, hm, hi⟩ := h1
        exact ⟨m, hm, hi, h2⟩
      · replace h1 := h1.2 z
        replace h2 := h2.2 z
        exact ⟨h1, h2⟩
set_option maxRecDepth 100000 in
def p_1298_c4 (s0 : zF) (Q : Int → zF → Prop) : Prop :=
  ∃ (I73 : zF → Int → Prop) (I85 : zF → Int → Prop) (I99 : zF → Int → Int → Prop),
    (∀ x192 : Int, x192 = s0 (2) 7 → 0 ≤ x192 → x192 ≤ 1600 → ∀ x199 : Int, x199 = s0 (4) x192.toNat → 0 ≤ x199 → x199 ≤ 5 → (¬ x199 = 4 → ∀ x206 : Int, (-1) ≤ x206 → x206 ≤ 26 → ∀ g209 : zF, zFr [] s0 g209 → (¬ x206 = (-1) → (x206 < 7 → ∀ b213 : Nat, (b213 : Int) = g209 (2) 8 → (b213 = 7 ∨ b213 = 28) → ∀ x217 : Int, x217 = (-1) - x206 → ∀ g224 : zF, zFr [(b213 + 13, b213 + 14, 1), (b213 + 14, b213 + 15, 1000)] g209 g224 → ∀ g231 : zF, zFr [(2, 3, 7)] g224 g231 → Q 1 g231) ∧ (7 ≤ x206 → I73 g209 x206)) ∧ (x206 = (-1) → I73 g209 x206)) ∧ (x199 = 4 → ∀ b233 : Nat, (b233 : Int) = s0 (2) 8 → (b233 = 7 ∨ b233 = 28) → ∀ x240 : Int, x240 = s0 (5) x192.toNat → ∀ g246 : zF, zFr [(b233 + 13, b233 + 14, 1), (b233 + 14, b233 + 15, 1000)] s0 g246 → ∀ g253 : zF, zFr [(2, 3, 7)] g246 g253 → Q 1 g253)) ∧
    (∀ (g : zF) (v73_2 : Int), zFr [(2, 3, 0), (2, 3, 1), (20, 21, 1), (41, 42, 1), (21, 22, 1000), (42, 43, 1000), (2, 3, 7)] s0 g → (-1) ≤ v73_2 → v73_2 ≤ 26 → I73 g v73_2 → (¬ v73_2 = 25 → (¬ v73_2 = 26 → I99 g v73_2 0) ∧ (v73_2 = 26 → I85 g v73_2)) ∧ (v73_2 = 25 → I85 g v73_2)) ∧
    (∀ (g : zF) (v85_2 : Int), zFr [(2, 3, 0), (2, 3, 1), (20, 21, 1), (41, 42, 1), (21, 22, 1000), (42, 43, 1000), (2, 3, 7)] s0 g → 25 ≤ v85_2 → v85_2 ≤ 26 → I85 g v85_2 → ∀ g8 : zF, zFr [(2, 3, 7)] g g8 → I99 g8 v85_2 1) ∧
    (∀ (g : zF) (v99_2 : Int) (v99_3 : Int), zFr [(2, 3, 0), (2, 3, 1), (20, 21, 1), (41, 42, 1), (21, 22, 1000), (42, 43, 1000), (2, 3, 7)] s0 g → (-1) ≤ v99_2 → v99_2 ≤ 26 → 0 ≤ v99_3 → v99_3 ≤ 1 → I99 g v99_2 v99_3 → ∀ x15 : Int, 0 ≤ x15 → x15 ≤ 1 → ∀ g18 : zF, zFr [] g g18 → (¬ x15 = 0 → ∀ g26 : zF, zFr [(2, 3, 7)] g18 g26 → ∃ P30 : Int → zF → Prop, p_1297_c5 g26 P30 ∧ ∀ x33 : Int, 0 ≤ x33 → x33 ≤ 1 → ∀ g36 : zF, zFr [(2, 3, 0), (2, 3, 1), (20, 21, 1), (41, 42, 1), (21, 22, 1000), (42, 43, 1000), (2, 3, 7)] g26 g36 → P30 x33 g36 → (¬ x33 = 0 → (¬ v99_3 = 0 → ∀ x45 : Int, 0 ≤ x45 → x45 ≤ 1 → ∀ g48 : zF, zFr [] g36 g48 → (¬ x45 = 0 → ∀ g56 : zF, zFr [(2, 3, 7)] g48 g56 → ∃ P60 : Int → zF → Prop, p_1297_c5 g56 P60 ∧ ∀ x63 : Int, 0 ≤ x63 → x63 ≤ 1 → ∀ g66 : zF, zFr [(2, 3, 0), (2, 3, 1), (20, 21, 1), (41, 42, 1), (21, 22, 1000), (42, 43, 1000), (2, 3, 7)] g56 g66 → P60 x63 g66 → (¬ x63 = 0 → ∀ b69 : Nat, (b69 : Int) = g66 (2) 8 → (b69 = 7 ∨ b69 = 28) → (¬ v99_2 = 25 → ∀ g79 : zF, zFr [(b69 + 13, b69 + 14, 1), (b69 + 14, b69 + 15, 1000)] g66 g79 → ∀ x86 : Int, 0 ≤ x86 → x86 ≤ 1 → ∀ g89 : zF, zFr [] g79 g89 → (¬ x86 = 0 → ∀ g97 : zF, zFr [(2, 3, 7)] g89 g97 → Q 1 g97) ∧ (x86 = 0 → ∀ x104 : Int, 0 ≤ x104 → x104 ≤ 0 → ∀ g107 : zF, zFr [(2, 3, 0), (2, 3, 1)] g89 g107 → Q x104 g107)) ∧ (v99_2 = 25 → ∀ g114 : zF, zFr [(b69 + 13, b69 + 14, 1), (b69 + 14, b69 + 15, 1000)] g66 g114 → ∀ x121 : Int, 0 ≤ x121 → x121 ≤ 1 → ∀ g124 : zF, zFr [] g114 g124 → (¬ x121 = 0 → ∀ g132 : zF, zFr [(2, 3, 7)] g124 g132 → Q 1 g132) ∧ (x121 = 0 → ∀ x139 : Int, 0 ≤ x139 → x139 ≤ 0 → ∀ g142 : zF, zFr [(2, 3, 0), (2, 3, 1)] g124 g142 → Q x139 g142))) ∧ (x63 = 0 → Q 0 g66)) ∧ (x45 = 0 → ∀ x149 : Int, 0 ≤ x149 → x149 ≤ 0 → ∀ g152 : zF, zFr [(2, 3, 0), (2, 3, 1)] g48 g152 → Q x149 g152)) ∧ (v99_3 = 0 → ∀ x159 : Int, 0 ≤ x159 → x159 ≤ 1 → ∀ g162 : zF, zFr [] g36 g162 → (¬ x159 = 0 → ∀ g170 : zF, zFr [(2, 3, 7)] g162 g170 → Q 1 g170) ∧ (x159 = 0 → ∀ x177 : Int, 0 ≤ x177 → x177 ≤ 0 → ∀ g180 : zF, zFr [(2, 3, 0), (2, 3, 1)] g162 g180 → Q x177 g180))) ∧ (x33 = 0 → Q 0 g36)) ∧ (x15 = 0 → ∀ x187 : Int, 0 ≤ x187 → x187 ≤ 0 → ∀ g190 : zF, zFr [(2, 3, 0), (2, 3, 1)] g18 g190 → Q x187 g190))
set_option maxRecDepth 100000 in
theorem cj_1298_c4 {s0 : zF} {Q1 Q2 : Int → zF → Prop} (h1 : b_1298_c4 s0 Q1) (h2 : p_1298_c4 s0 Q2) : b_1298_c4 s0 (fun v g => Q1 v g ∧ Q2 v g) := by
  obtain ⟨I73, I85, I99, h1E, h1_0, h1_1, h1_2⟩ := h1
  obtain ⟨J73, J85, J99, h2E, h2_0, h2_1, h2_2⟩ := h2
  refine ⟨fun n g y0 => I73 n g y0 ∧ J73 g y0, fun n g y0 => I85 n g y0 ∧ J85 g y0, fun n g y0 y1 => I99 n g y0 y1 ∧ J99 g y0 y1, ?_, ?_, ?_, ?_⟩
  · have h1 := h1E
    have h2 := h2E
    clear h1E h2E h1_0 h2_0 h1_1 h2_1 h1_2 h2_2
    intro x192 a2_0 a2_1 a2_2 x199 a2_3 a2_4 a2_5
    replace h1 := h1 x192 a2_0 a2_1 a2_2 x199 a2_3 a2_4 a2_5
    replace h2 := h2 x192 a2_0 a2_1 a2_2 x199 a2_3 a2_4 a2_5
    refine ⟨fun z => ?_, fun z => ?_⟩
    · replace h1 := h1.1 z
      replace h2 := h2.1 z
      obtain ⟨P1, c1, h1⟩ := h1
      refine ⟨P1, c1, ?_⟩
      intro x206 a3_0 a3_1 g209 a3_2 a3_3
      replace h1 := h1 x206 a3_0 a3_1 g209 a3_2 a3_3
      replace h2 := h2 x206 a3_0 a3_1 g209 a3_2
      refine ⟨fun z => ?_, fun z => ?_⟩
      · replace h1 := h1.1 z
        replace h2 := h2.1 z
        refine ⟨fun z => ?_, fun z => ?_⟩
        · replace h1 := h1.1 z
          replace h2 := h2.1 z
          intro b213 a5_0 a5_1 x217 a5_2
          replace h1 := h1 b213 a5_0 a5_1 x217 a5_2
          replace h2 := h2 b213 a5_0 a5_1 x217 a5_2
          obtain ⟨P1, c1, h1⟩ := h1
          refine ⟨P1, c1, ?_⟩
          intro g224 a5_0 a5_1
          replace h1 := h1 g224 a5_0 a5_1
          replace h2 := h2 g224 a5_0
          obtain ⟨P1, c1, h1⟩ := h1
          refine ⟨P1, c1, ?_⟩
          intro g231 a5_0 a5_1
          replace h1 := h1 g231 a5_0 a5_1
          replace h2 := h2 g231 a5_0
          exact ⟨h1, h2⟩
        · replace h1 := h1.2 z
          replace h2 := h2.2 z
          obtain ⟨m, hi⟩ := h1
          exact ⟨m, hi, h2⟩
      · replace h1 := h1.2 z
        replace h2 := h2.2 z
        obtain ⟨m, hi⟩ := h1
        exact ⟨m, hi, h2⟩
    · replace h1 := h1.2 z
      replace h2 := h2.2 z
      intro b233 a3_0 a3_1 x240 a3_2
      replace h1 := h1 b233 a3_0 a3_1 x240 a3_2
      replace h2 := h2 b233 a3_0 a3_1 x240 a3_2
      obtain ⟨P1, c1, h1⟩ := h1
      refine ⟨P1, c1, ?_⟩
      intro g246 a3_0 a3_1
      replace h1 := h1 g246 a3_0 a3_1
      replace h2 := h2 g246 a3_0
      obtain ⟨P1, c1, h1⟩ := h1
      refine ⟨P1, c1, ?_⟩
      intro g253 a3_0 a3_1
      replace h1 := h1 g253 a3_0 a3_1
      replace h2 := h2 g253 a3_0
      exact ⟨h1, h2⟩
  · intro n g v73_2 e0 e1 e2 hI
    have h1 := h1_0 n g v73_2 e0 e1 e2 hI.1
    have h2 := h2_0 g v73_2 e0 e1 e2 hI.2
    clear h1E h2E hI h1_0 h2_0 h1_1 h2_1 h1_2 h2_2
    refine ⟨fun z => ?_, fun z => ?_⟩
    · replace h1 := h1.1 z
      replace h2 := h2.1 z
      refine ⟨fun z => ?_, fun z => ?_⟩
      · replace h1 := h1.1 z
        replace h2 := h2.1 z
        obtain ⟨m, hm, hi⟩ := h1
        exact ⟨m, hm, hi, h2⟩
      · replace h1 := h1.2 z
        replace h2 := h2.2 z
        obtain ⟨m, hm, hi⟩ := h1
        exact ⟨m, hm, hi, h2⟩
    · replace h1 := h1.2 z
      replace h2 := h2.2 z
      obtain ⟨m, hm, hi⟩ := h1
      exact ⟨m, hm, hi, h2⟩
  · intro n g v85_2 e0 e1 e2 hI
    have h1 := h1_1 n g v85_2 e0 e1 e2 hI.1
    have h2 := h2_1 g v85_2 e0 e1 e2 hI.2
    clear h1E h2E hI h1_0 h2_0 h1_1 h2_1 h1_2 h2_2
    obtain ⟨P1, c1, h1⟩ := h1
    refine ⟨P1, c1, ?_⟩
    intro g8 a2_0 a2_1
    replace h1 := h1 g8 a2_0 a2_1
    replace h2 := h2 g8 a2_0
    obtain ⟨m, hm, hi⟩ := h1
    exact ⟨m, hm, hi, h2⟩
  · intro n g v99_2 v99_3 e0 e1 e2 e3 e4 hI
    have h1 := h1_2 n g v99_2 v99_3 e0 e1 e2 e3 e4 hI.1
    have h2 := h2_2 g v99_2 v99_3 e0 e1 e2 e3 e4 hI.2
    clear h1E h2E hI h1_0 h2_0 h1_1 h2_1 h1_2 h2_2
    obtain ⟨P1, c1, h1⟩ := h1
    refine ⟨P1, c1, ?_⟩
    intro x15 a2_0 a2_1 g18 a2_2 a2_3
    replace h1 := h1 x15 a2_0 a2_1 g18 a2_2 a2_3
    replace h2 := h2 x15 a2_0 a2_1 g18 a2_2
    refine ⟨fun z => ?_, fun z => ?_⟩
    · replace h1 := h1.1 z
      replace h2 := h2.1 z
      obtain ⟨P1, c1, h1⟩ := h1
      refine ⟨P1, c1, ?_⟩
      intro g26 a3_0 a3_1
      replace h1 := h1 g26 a3_0 a3_1
      replace h2 := h2 g26 a3_0
      obtain ⟨P1, c1, h1⟩ := h1
      obtain ⟨P2, c2, h2⟩ := h2
      refine ⟨fun v g => P1 v g ∧ P2 v g, cj_1297_c5 c1 c2, ?_⟩
      intro x33 a3_0 a3_1 g36 a3_2 a3_3
      replace h1 := h1 x33 a3_0 a3_1 g36 a3_2 a3_3.1
      replace h2 := h2 x33 a3_0 a3_1 g36 a3_2 a3_3.2
      refine ⟨fun z => ?_, fun z => ?_⟩
      · replace h1 := h1.1 z
        replace h2 := h2.1 z
        refine ⟨fun z => ?_, fun z => ?_⟩
        · replace h1 := h1.1 z
          replace h2 := h2.1 z
          obtain ⟨P1, c1, h1⟩ := h1
          refine ⟨P1, c1, ?_⟩
          intro x45 a5_0 a5_1 g48 a5_2 a5_3
          replace h1 := h1 x45 a5_0 a5_1 g48 a5_2 a5_3
          replace h2 := h2 x45 a5_0 a5_1 g48 a5_2
          refine ⟨fun z => ?_, fun z => ?_⟩
          · replace h1 := h1.1 z
            replace h2 := h2.1 z
            obtain ⟨P1, c1, h1⟩ := h1
            refine ⟨P1, c1, ?_⟩
            intro g56 a6_0 a6_1
            replace h1 := h1 g56 a6_0 a6_1
            replace h2 := h2 g56 a6_0
            obtain ⟨P1, c1, h1⟩ := h1
            obtain ⟨P2, c2, h2⟩ := h2
            refine ⟨fun v g => P1 v g ∧ P2 v g, cj_1297_c5 c1 c2, ?_⟩
            intro x63 a6_0 a6_1 g66 a6_2 a6_3
            replace h1 := h1 x63 a6_0 a6_1 g66 a6_2 a6_3.1
            replace h2 := h2 x63 a6_0 a6_1 g66 a6_2 a6_3.2
            refine ⟨fun z => ?_, fun z => ?_⟩
            · replace h1 := h1.1 z
              replace h2 := h2.1 z
              intro b69 a7_0 a7_1
              replace h1 := h1 b69 a7_0 a7_1
              replace h2 := h2 b69 a7_0 a7_1
              refine ⟨fun z => ?_, fun z => ?_⟩
              · replace h1 := h1.1 z
                replace h2 := h2.1 z
                obtain ⟨P1, c1, h1⟩ := h1
                refine ⟨P1, c1, ?_⟩
                intro g79 a8_0 a8_1
                replace h1 := h1 g79 a8_0 a8_1
                replace h2 := h2 g79 a8_0
                obtain ⟨P1, c1, h1⟩ := h1
                refine ⟨P1, c1, ?_⟩
                intro x86 a8_0 a8_1 g89 a8_2 a8_3
                replace h1 := h1 x86 a8_0 a8_1 g89 a8_2 a8_3
                replace h2 := h2 x86 a8_0 a8_1 g89 a8_2
                refine ⟨fun z => ?_, fun z => ?_⟩
                · replace h1 := h1.1 z
                  replace h2 := h2.1 z
                  obtain ⟨P1, c1, h1⟩ := h1
                  refine ⟨P1, c1, ?_⟩
                  intro g97 a9_0 a9_1
                  replace h1 := h1 g97 a9_0 a9_1
                  replace h2 := h2 g97 a9_0
                  exact ⟨h1, h2⟩
                · replace h1 := h1.2 z
                  replace h2 := h2.2 z
                  obtain ⟨P1, c1, h1⟩ := h1
                  refine ⟨P1, c1, ?_⟩
                  intro x104 a9_0 a9_1 g107 a9_2 a9_3
                  replace h1 := h1 x104 a9_0 a9_1 g107 a9_2 a9_3
                  replace h2 := h2 x104 a9_0 a9_1 g107 a9_2
                  exact ⟨h1, h2⟩
              · replace h1 := h1.2 z
                replace h2 := h2.2 z
                obtain ⟨P1, c1, h1⟩ := h1
                refine ⟨P1, c1, ?_⟩
                intro g114 a8_0 a8_1
                replace h1 := h1 g114 a8_0 a8_1
                replace h2 := h2 g114 a8_0
                obtain ⟨P1, c1, h1⟩ := h1
                refine ⟨P1, c1, ?_⟩
                intro x121 a8_0 a8_1 g124 a8_2 a8_3
                replace h1 := h1 x121 a8_0 a8_1 g124 a8_2 a8_3
                replace h2 := h2 x121 a8_0 a8_1 g124 a8_2
                refine ⟨fun z => ?_, fun z => ?_⟩
                · replace h1 := h1.1 z
                  replace h2 := h2.1 z
                  obtain ⟨P1, c1, h1⟩ := h1
                  refine ⟨P1, c1, ?_⟩
                  intro g132 a9_0 a9_1
                  replace h1 := h1 g132 a9_0 a9_1
                  replace h2 := h2 g132 a9_0
                  exact ⟨h1, h2⟩
                · replace h1 := h1.2 z
                  replace h2 := h2.2 z
                  obtain ⟨P1, c1, h1⟩ := h1
                  refine ⟨P1, c1, ?_⟩
                  intro x139 a9_0 a9_1 g142 a9_2 a9_3
                  replace h1 := h1 x139 a9_0 a9_1 g142 a9_2 a9_3
                  replace h2 := h2 x139 a9_0 a9_1 g142 a9_2
                  exact ⟨h1, h2⟩
            · replace h1 := h1.2 z
              replace h2 := h2.2 z
              exact ⟨h1, h2⟩
          · replace h1 := h1.2 z
            replace h2 := h2.2 z
            obtain ⟨P1, c1, h1⟩ := h1
            refine ⟨P1, c1, ?_⟩
            intro x149 a6_0 a6_1 g152 a6_2 a6_3
            replace h1 := h1 x149 a6_0 a6_1 g152 a6_2 a6_3
            replace h2 := h2 x149 a6_0 a6_1 g152 a6_2
            exact ⟨h1, h2⟩
        · replace h1 := h1.2 z
          replace h2 := h2.2 z
          obtain ⟨P1, c1, h1⟩ := h1
          refine ⟨P1, c1, ?_⟩
          intro x159 a5_0 a5_1 g162 a5_2 a5_3
          replace h1 := h1 x159 a5_0 a5_1 g162 a5_2 a5_3
          replace h2 := h2 x159 a5_0 a5_1 g162 a5_2
          refine ⟨fun z => ?_, fun z => ?_⟩
          · replace h1 := h1.1 z
            replace h2 := h2.1 z
            obtain ⟨P1, c1, h1⟩ := h1
            refine ⟨P1, c1, ?_⟩
            intro g170 a6_0 a6_1
            replace h1 := h1 g170 a6_0 a6_1
            replace h2 := h2 g170 a6_0
            exact ⟨h1, h2⟩
          · replace h1 := h1.2 z
            replace h2 := h2.2 z
            obtain ⟨P1, c1, h1⟩ := h1
            refine ⟨P1, c1, ?_⟩
            intro x177 a6_0 a6_1 g180 a6_2 a6_3
            replace h1 := h1 x177 a6_0 a6_1 g180 a6_2 a6_3
            replace h2 := h2 x177 a6_0 a6_1 g180 a6_2
            exact ⟨h1, h2⟩
      · replace h1 := h1.2 z
        replace h2 := h2.2 z
        exact ⟨h1, h2⟩
    · replace h1 := h1.2 z
      replace h2 := h2.2 z
      obtain ⟨P1, c1, h1⟩ := h1
      refine ⟨P1, c1, ?_⟩
      intro x187 a3_0 a3_1 g190 a3_2 a3_3
      replace h1 := h1 x187 a3_0 a3_1 g190 a3_2 a3_3
      replace h2 := h2 x187 a3_0 a3_1 g190 a3_2
      exact ⟨h1, h2⟩
set_option maxRecDepth 100000 in
def p_1297_c4 (s0 : zF) (Q : Int → zF → Prop) : Prop :=
  ∃ (I4 : zF → Int → Int → Prop) (I17 : zF → Int → Int → Int → Int → Prop) (I52 : zF → Int → Int → Int → Prop) (I95 : zF → Int → Int → Int → Int → Prop) (I115 : zF → Int → Int → Prop) (I130 : zF → Int → Prop),
    (I4 s0 0 0) ∧
    (∀ (g : zF) (v4_2 : Int) (v4_3 : Int), zFr [(2, 3, 0), (2, 3, 1), (20, 21, 1), (41, 42, 1), (21, 22, 1000), (42, 43, 1000), (2, 3, 7)] s0 g → (-13) ≤ v4_2 → v4_2 ≤ 0 → 0 ≤ v4_3 → v4_3 ≤ 1601 → I4 g v4_2 v4_3 → (1600 < v4_3 → Q 1 g) ∧ (v4_3 ≤ 1600 → I17 g v4_2 v4_3 0 0)) ∧
    (∀ (g : zF) (v17_2 : Int) (v17_3 : Int) (v17_4 : Int) (v17_5 : Int), zFr [(2, 3, 0), (2, 3, 1), (20, 21, 1), (41, 42, 1), (21, 22, 1000), (42, 43, 1000), (2, 3, 7)] s0 g → v17_2 ≤ 0 → 0 ≤ v17_3 → v17_3 ≤ 1600 → (-11) ≤ v17_4 → v17_4 ≤ 0 → 0 ≤ v17_5 → v17_5 ≤ 1601 → I17 g v17_2 v17_3 v17_4 v17_5 → (1600 < v17_5 → I115 g v17_2 v17_3) ∧ (v17_5 ≤ 1600 → ∃ P5 : Int → zF → Prop, p_1298_c4 g P5 ∧ ∀ x8 : Int, 0 ≤ x8 → x8 ≤ 1 → ∀ g11 : zF, zFr [(2, 3, 0), (2, 3, 1), (20, 21, 1), (41, 42, 1), (21, 22, 1000), (42, 43, 1000), (2, 3, 7)] g g11 → P5 x8 g11 → (¬ x8 = 0 → (¬ v17_4 = 0 → ∀ b15 : Nat, (b15 : Int) = g11 (2) 8 → (b15 = 7 ∨ b15 = 28) → ∀ g24 : zF, zFr [(b15 + 13, b15 + 14, 1), (b15 + 14, b15 + 15, 1000)] g11 g24 → I52 g24 v17_2 v17_3 v17_5) ∧ (v17_4 = 0 → I52 g11 v17_2 v17_3 v17_5)) ∧ (x8 = 0 → Q 0 g11))) ∧
    (∀ (g : zF) (v52_2 : Int) (v52_3 : Int) (v52_5 : Int), zFr [(2, 3, 0), (2, 3, 1), (20, 21, 1), (41, 42, 1), (21, 22, 1000), (42, 43, 1000), (2, 3, 7)] s0 g → v52_2 ≤ 0 → 0 ≤ v52_3 → v52_3 ≤ 1600 → 0 ≤ v52_5 → v52_5 ≤ 1600 → I52 g v52_2 v52_3 v52_5 → ∀ x31 : Int, 0 ≤ x31 → x31 ≤ 1 → ∀ g34 : zF, zFr [] g g34 → (¬ x31 = 0 → I95 g34 v52_2 v52_3 v52_5 (-9)) ∧ (x31 = 0 → ∀ x42 : Int, 0 ≤ x42 → x42 ≤ 1 → ∀ g45 : zF, zFr [] g34 g45 → (¬ x42 = 0 → I95 g45 v52_2 v52_3 v52_5 (-10)) ∧ (x42 = 0 → ∀ x53 : Int, 0 ≤ x53 → x53 ≤ 1 → ∀ g56 : zF, zFr [] g45 g56 → (¬ x53 = 0 → I95 g56 v52_2 v52_3 v52_5 (-11)) ∧ (x53 = 0 → I95 g56 v52_2 v52_3 v52_5 0)))) ∧
    (∀ (g : zF) (v95_2 : Int) (v95_3 : Int) (v95_5 : Int) (s95_0 : Int), zFr [(2, 3, 0), (2, 3, 1), (20, 21, 1), (41, 42, 1), (21, 22, 1000), (42, 43, 1000), (2, 3, 7)] s0 g → v95_2 ≤ 0 → 0 ≤ v95_3 → v95_3 ≤ 1600 → 0 ≤ v95_5 → v95_5 ≤ 1600 → (-11) ≤ s95_0 → s95_0 ≤ 0 → I95 g v95_2 v95_3 v95_5 s95_0 → (¬ s95_0 = 0 → ∀ g65 : zF, zFr [(2, 3, 7)] g g65 → ∀ x67 : Int, x67 = v95_5 + 1 → I17 g65 v95_2 v95_3 s95_0 x67) ∧ (s95_0 = 0 → I115 g v95_2 v95_3)) ∧
    (∀ (g : zF) (v115_2 : Int) (v115_3 : Int), zFr [(2, 3, 0), (2, 3, 1), (20, 21, 1), (41, 42, 1), (21, 22, 1000), (42, 43, 1000), (2, 3, 7)] s0 g → v115_2 ≤ 0 → 0 ≤ v115_3 → v115_3 ≤ 1600 → I115 g v115_2 v115_3 → (¬ v115_2 = 0 → ∀ b70 : Nat, (b70 : Int) = g (2) 8 → (b70 = 7 ∨ b70 = 28) → ∀ g79 : zF, zFr [(b70 + 13, b70 + 14, 1), (b70 + 14, b70 + 15, 1000)] g g79 → I130 g79 v115_3) ∧ (v115_2 = 0 → I130 g v115_3)) ∧
    (∀ (g : zF) (v130_3 : Int), zFr [(2, 3, 0), (2, 3, 1), (20, 21, 1), (41, 42, 1), (21, 22, 1000), (42, 43, 1000), (2, 3, 7)] s0 g → 0 ≤ v130_3 → v130_3 ≤ 1600 → I130 g v130_3 → ∀ x86 : Int, 0 ≤ x86 → x86 ≤ 1 → ∀ g89 : zF, zFr [] g g89 → (¬ x86 = 0 → ∀ g97 : zF, zFr [(2, 3, 7)] g89 g97 → ∀ x99 : Int, x99 = v130_3 + 1 → I4 g97 (-12) x99) ∧ (x86 = 0 → ∀ x106 : Int, 0 ≤ x106 → x106 ≤ 1 → ∀ g109 : zF, zFr [] g89 g109 → (¬ x106 = 0 → ∀ g117 : zF, zFr [(2, 3, 7)] g109 g117 → ∀ x119 : Int, x119 = v130_3 + 1 → I4 g117 (-13) x119) ∧ (x106 = 0 → Q 1 g109)))
set_option maxRecDepth 100000 in
theorem cj_1297_c4 {s0 : zF} {Q1 Q2 : Int → zF → Prop} (h1 : b_1297_c4 s0 Q1) (h2 : p_1297_c4 s0 Q2) : b_1297_c4 s0 (fun v g => Q1 v g ∧ Q2 v g) := by
  obtain ⟨I4, I17, I52, I95, I115, I130, h1E, h1_0, h1_1, h1_2, h1_3, h1_4, h1_5⟩ := h1
  obtain ⟨J4, J17, J52, J95, J115, J130, h2E, h2_0, h2_1, h2_2, h2_3, h2_4, h2_5⟩ := h2
  refine ⟨fun n g y0 y1 => I4 n g y0 y1 ∧ J4 g y0 y1, fun n g y0 y1 y2 y3 => I17 n g y0 y1 y2 y3 ∧ J17 g y0 y1 y2 y3, fun n g y0 y1 y2 => I52 n g y0 y1 y2 ∧ J52 g y0 y1 y2, fun n g y0 y1 y2 y3 => I95 n g y0 y1 y2 y3 ∧ J95 g y0 y1 y2 y3, fun n g y0 y1 => I115 n g y0 y1 ∧ J115 g y0 y1, fun n g y0 => I130 n g y0 ∧ J130 g y0, ?_, ?_, ?_, ?_, ?_, ?_, ?_⟩
  · have h1 := h1E
    have h2 := h2E
    clear h1E h2E h1_0 h2_0 h1_1 h2_1 h1_2 h2_2 h1_3 h2_3 h1_4 h2_4 h1_5 h2_5
    obtain ⟨m, hi⟩ := h1
    exact ⟨m, hi, h2⟩
  · intro n g v4_2 v4_3 e0 e1 e2 e3 e4 hI
    have h1 := h1_0 n g v4_2 v4_3 e0 e1 e2 e3 e4 hI.1
    have h2 := h2_0 g v4_2 v4_3 e0 e1 e2 e3 e4 hI.2
    clear h1E h2E hI h1_0 h2_0 h1_1 h2_1 h1_2 h2_2 h1_3 h2_3 h1_4 h2_4 h1_5 h2_5
    refine ⟨fun z => ?_, fun z => ?_⟩
    · replace h1 := h1.1 z
      replace h2 := h2.1 z
      exact ⟨h1, h2⟩
    · replace h1 := h1.2 z
      replace h2 := h2.2 z
      obtain ⟨m, hm, hi⟩ := h1
      exact ⟨m, hm, hi, h2⟩
  · intro n g v17_2 v17_3 v17_4 v17_5 e0 e1 e2 e3 e4 e5 e6 e7 hI
    have h1 := h1_1 n g v17_2 v17_3 v17_4 v17_5 e0 e1 e2 e3 e4 e5 e6 e7 hI.1
    have h2 := h2_1 g v17_2 v17_3 v17_4 v17_5 e0 e1 e2 e3 e4 e5 e6 e7 hI.2
    clear h1E h2E hI h1_0 h2_0 h1_1 h2_1 h1_2 h2_2 h1_3 h2_3 h1_4 h2_4 h1_5 h2_5
    refine ⟨fun z => ?_, fun z => ?_⟩
    · replace h1 := h1.1 z
      replace h2 := h2.1 z
      obtain ⟨m, hm, hi⟩ := h1
      exact ⟨m, hm, hi, h2⟩
    · replace h1 := h1.2 z
      replace h2 := h2.2 z
      obtain ⟨P1, c1, h1⟩ := h1
      obtain ⟨P2, c2, h2⟩ := h2
      refine ⟨fun v g => P1 v g ∧ P2 v g, cj_1298_c4 c1 c2, ?_⟩
      intro x8 a3_0 a3_1 g11 a3_2 a3_3
      replace h1 := h1 x8 a3_0 a3_1 g11 a3_2 a3_3.1
      replace h2 := h2 x8 a3_0 a3_1 g11 a3_2 a3_3.2
      refine ⟨fun z => ?_, fun z => ?_⟩
      · replace h1 := h1.1 z
        replace h2 := h2.1 z
        refine ⟨fun z => ?_, fun z => ?_⟩
        · replace h1 := h1.1 z
          replace h2 := h2.1 z
          intro b15 a5_0 a5_1
          replace h1 := h1 b15 a5_0 a5_1
          replace h2 := h2 b15 a5_0 a5_1
          obtain ⟨P1, c1, h1⟩ := h1
          refine ⟨P1, c1, ?_⟩
          intro g24 a5_0 a5_1
          replace h1 := h1 g24 a5_0 a5_1
          replace h2 := h2 g24 a5_0
          obtain ⟨m, hm, hi⟩ := h1
          exact ⟨m, hm, hi, h2⟩
        · replace h1 := h1.2 z
          replace h2 := h2.2 z
          obtain ⟨m, hm, hi⟩ := h1
          exact ⟨m, hm, hi, h2⟩
      · replace h1 := h1.2 z
        replace h2 := h2.2 z
        exact ⟨h1, h2⟩
  · intro n g v52_2 v52_3 v52_5 e0 e1 e2 e3 e4 e5 hI
    have h1 := h1_2 n g v52_2 v52_3 v52_5 e0 e1 e2 e3 e4 e5 hI.1
    have h2 := h2_2 g v52_2 v52_3 v52_5 e0 e1 e2 e3 e4 e5 hI.2
    clear h1E h2E hI h1_0 h2_0 h1_1 h2_1 h1_2 h2_2 h1_3 h2_3 h1_4 h2_4 h1_5 h2_5
    obtain ⟨P1, c1, h1⟩ := h1
    refine ⟨P1, c1, ?_⟩
    intro x31 a2_0 a2_1 g34 a2_2 a2_3
    replace h1 := h1 x31 a2_0 a2_1 g34 a2_2 a2_3
    replace h2 := h2 x31 a2_0 a2_1 g34 a2_2
    refine ⟨fun z => ?_, fun z => ?_⟩
    · replace h1 := h1.1 z
      replace h2 := h2.1 z
      obtain ⟨m, hm, hi⟩ := h1
      exact ⟨m, hm, hi, h2⟩
    · replace h1 := h1.2 z
      replace h2 := h2.2 z
      obtain ⟨P1, c1, h1⟩ := h1
      refine ⟨P1, c1, ?_⟩
      intro x42 a3_0 a3_1 g45 a3_2 a3_3
      replace h1 := h1 x42 a3_0 a3_1 g45 a3_2 a3_3
      replace h2 := h2 x42 a3_0 a3_1 g45 a3_2
      refine ⟨fun z => ?_, fun z => ?_⟩
      · replace h1 := h1.1 z
        replace h2 := h2.1 z
        obtain ⟨m, hm, hi⟩ := h1
        exact ⟨m, hm, hi, h2⟩
      · replace h1 := h1.2 z
        replace h2 := h2.2 z
        obtain ⟨P1, c1, h1⟩ := h1
        refine ⟨P1, c1, ?_⟩
        intro x53 a4_0 a4_1 g56 a4_2 a4_3
        replace h1 := h1 x53 a4_0 a4_1 g56 a4_2 a4_3
        replace h2 := h2 x53 a4_0 a4_1 g56 a4_2
        refine ⟨fun z => ?_, fun z => ?_⟩
        · replace h1 := h1.1 z
          replace h2 := h2.1 z
          obtain ⟨m, hm, hi⟩ := h1
          exact ⟨m, hm, hi, h2⟩
        · replace h1 := h1.2 z
          replace h2 := h2.2 z
          obtain ⟨m, hm, hi⟩ := h1
          exact ⟨m, hm, hi, h2⟩
  · intro n g v95_2 v95_3 v95_5 s95_0 e0 e1 e2 e3 e4 e5 e6 e7 hI
    have h1 := h1_3 n g v95_2 v95_3 v95_5 s95_0 e0 e1 e2 e3 e4 e5 e6 e7 hI.1
    have h2 := h2_3 g v95_2 v95_3 v95_5 s95_0 e0 e1 e2 e3 e4 e5 e6 e7 hI.2
    clear h1E h2E hI h1_0 h2_0 h1_1 h2_1 h1_2 h2_2 h1_3 h2_3 h1_4 h2_4 h1_5 h2_5
    refine ⟨fun z => ?_, fun z => ?_⟩
    · replace h1 := h1.1 z
      replace h2 := h2.1 z
      obtain ⟨P1, c1, h1⟩ := h1
      refine ⟨P1, c1, ?_⟩
      intro g65 a3_0 a3_1 x67 a3_2
      replace h1 := h1 g65 a3_0 a3_1 x67 a3_2
      replace h2 := h2 g65 a3_0 x67 a3_2
      obtain ⟨m, hm, hi⟩ := h1
      exact ⟨m, hm, hi, h2⟩
    · replace h1 := h1.2 z
      replace h2 := h2.2 z
      obtain ⟨m, hm, hi⟩ := h1
      exact ⟨m, hm, hi, h2⟩
  · intro n g v115_2 v115_3 e0 e1 e2 e3 hI
    have h1 := h1_4 n g v115_2 v115_3 e0 e1 e2 e3 hI.1
    have h2 := h2_4 g v115_2 v115_3 e0 e1 e2 e3 hI.2
    clear h1E h2E hI h1_0 h2_0 h1_1 h2_1 h1_2 h2_2 h1_3 h2_3 h1_4 h2_4 h1_5 h2_5
    refine ⟨fun z => ?_, fun z => ?_⟩
    · replace h1 := h1.1 z
      replace h2 := h2.1 z
      intro b70 a3_0 a3_1
      replace h1 := h1 b70 a3_0 a3_1
      replace h2 := h2 b70 a3_0 a3_1
      obtain ⟨P1, c1, h1⟩ := h1
      refine ⟨P1, c1, ?_⟩
      intro g79 a3_0 a3_1
      replace h1 := h1 g79 a3_0 a3_1
      replace h2 := h2 g79 a3_0
      obtain ⟨m, hm, hi⟩ := h1
      exact ⟨m, hm, hi, h2⟩
    · replace h1 := h1.2 z
      replace h2 := h2.2 z
      obtain ⟨m, hm, hi⟩ := h1
      exact ⟨m, hm, hi, h2⟩
  · intro n g v130_3 e0 e1 e2 hI
    have h1 := h1_5 n g v130_3 e0 e1 e2 hI.1
    have h2 := h2_5 g v130_3 e0 e1 e2 hI.2
    clear h1E h2E hI h1_0 h2_0 h1_1 h2_1 h1_2 h2_2 h1_3 h2_3 h1_4 h2_4 h1_5 h2_5
    obtain ⟨P1, c1, h1⟩ := h1
    refine ⟨P1, c1, ?_⟩
    intro x86 a2_0 a2_1 g89 a2_2 a2_3
    replace h1 := h1 x86 a2_0 a2_1 g89 a2_2 a2_3
    replace h2 := h2 x86 a2_0 a2_1 g89 a2_2
    refine ⟨fun z => ?_, fun z => ?_⟩
    · replace h1 := h1.1 z
      replace h2 := h2.1 z
      obtain ⟨P1, c1, h1⟩ := h1
      refine ⟨P1, c1, ?_⟩
      intro g97 a3_0 a3_1 x99 a3_2
      replace h1 := h1 g97 a3_0 a3_1 x99 a3_2
      replace h2 := h2 g97 a3_0 x99 a3_2
      obtain ⟨m, hm, hi⟩ := h1
      exact ⟨m, hm, hi, h2⟩
    · replace h1 := h1.2 z
      replace h2 := h2.2 z
      obtain ⟨P1, c1, h1⟩ := h1
      refine ⟨P1, c1, ?_⟩
      intro x106 a3_0 a3_1 g109 a3_2 a3_3
      replace h1 := h1 x106 a3_0 a3_1 g109 a3_2 a3_3
      replace h2 := h2 x106 a3_0 a3_1 g109 a3_2
      refine ⟨fun z => ?_, fun z => ?_⟩
      · replace h1 := h1.1 z
        replace h2 := h2.1 z
        obtain ⟨P1, c1, h1⟩ := h1
        refine ⟨P1, c1, ?_⟩
        intro g117 a4_0 a4_1 x119 a4_2
        replace h1 := h1 g117 a4_0 a4_1 x119 a4_2
        replace h2 := h2 g117 a4_0 x119 a4_2
        obtain ⟨m, hm, hi⟩ := h1
        exact ⟨m, hm, hi, h2⟩
      · replace h1 := h1.2 z
        replace h2 := h2.2 z
        exact ⟨h1, h2⟩
set_option maxRecDepth 100000 in
def p_1298_c3 (s0 : zF) (Q : Int → zF → Prop) : Prop :=
  ∃ (I73 : zF → Int → Prop) (I85 : zF → Int → Prop) (I99 : zF → Int → Int → Prop),
    (∀ x192 : Int, x192 = s0 (2) 7 → 0 ≤ x192 → x192 ≤ 1600 → ∀ x199 : Int, x199 = s0 (4) x192.toNat → 0 ≤ x199 → x199 ≤ 5 → (¬ x199 = 4 → ∀ x206 : Int, (-1) ≤ x206 → x206 ≤ 26 → ∀ g209 : zF, zFr [] s0 g209 → (¬ x206 = (-1) → (x206 < 7 → ∀ b213 : Nat, (b213 : Int) = g209 (2) 8 → (b213 = 7 ∨ b213 = 28) → ∀ x217 : Int, x217 = (-1) - x206 → ∀ g224 : zF, zFr [(b213 + 13, b213 + 14, 1), (b213 + 14, b213 + 15, 1000)] g209 g224 → ∀ g231 : zF, zFr [(2, 3, 7)] g224 g231 → Q 1 g231) ∧ (7 ≤ x206 → I73 g209 x206)) ∧ (x206 = (-1) → I73 g209 x206)) ∧ (x199 = 4 → ∀ b233 : Nat, (b233 : Int) = s0 (2) 8 → (b233 = 7 ∨ b233 = 28) → ∀ x240 : Int, x240 = s0 (5) x192.toNat → ∀ g246 : zF, zFr [(b233 + 13, b233 + 14, 1), (b233 + 14, b233 + 15, 1000)] s0 g246 → ∀ g253 : zF, zFr [(2, 3, 7)] g246 g253 → Q 1 g253)) ∧
    (∀ (g : zF) (v73_2 : Int), zFr [(2, 3, 0), (2, 3, 1), (20, 21, 1), (41, 42, 1), (21, 22, 1000), (42, 43, 1000), (2, 3, 7)] s0 g → (-1) ≤ v73_2 → v73_2 ≤ 26 → I73 g v73_2 → (¬ v73_2 = 25 → (¬ v73_2 = 26 → I99 g v73_2 0) ∧ (v73_2 = 26 → I85 g v73_2)) ∧ (v73_2 = 25 → I85 g v73_2)) ∧
    (∀ (g : zF) (v85_2 : Int), zFr [(2, 3, 0), (2, 3, 1), (20, 21, 1), (41, 42, 1), (21, 22, 1000), (42, 43, 1000), (2, 3, 7)] s0 g → 25 ≤ v85_2 → v85_2 ≤ 26 → I85 g v85_2 → ∀ g8 : zF, zFr [(2, 3, 7)] g g8 → I99 g8 v85_2 1) ∧
    (∀ (g : zF) (v99_2 : Int) (v99_3 : Int), zFr [(2, 3, 0), (2, 3, 1), (20, 21, 1), (41, 42, 1), (21, 22, 1000), (42, 43, 1000), (2, 3, 7)] s0 g → (-1) ≤ v99_2 → v99_2 ≤ 26 → 0 ≤ v99_3 → v99_3 ≤ 1 → I99 g v99_2 v99_3 → ∀ x15 : Int, 0 ≤ x15 → x15 ≤ 1 → ∀ g18 : zF, zFr [] g g18 → (¬ x15 = 0 → ∀ g26 : zF, zFr [(2, 3, 7)] g18 g26 → ∃ P30 : Int → zF → Prop, p_1297_c4 g26 P30 ∧ ∀ x33 : Int, 0 ≤ x33 → x33 ≤ 1 → ∀ g36 : zF, zFr [(2, 3, 0), (2, 3, 1), (20, 21, 1), (41, 42, 1), (21, 22, 1000), (42, 43, 1000), (2, 3, 7)] g26 g36 → P30 x33 g36 → (¬ x33 = 0 → (¬ v99_3 = 0 → ∀ x45 : Int, 0 ≤ x45 → x45 ≤ 1 → ∀ g48 : zF, zFr [] g36 g48 → (¬ x45 = 0 → ∀ g56 : zF, zFr [(2, 3, 7)] g48 g56 → ∃ P60 : Int → zF → Prop, p_1297_c4 g56 P60 ∧ ∀ x63 : Int, 0 ≤ x63 → x63 ≤ 1 → ∀ g66 : zF, zFr [(2, 3, 0), (2, 3, 1), (20, 21, 1), (41, 42, 1), (21, 22, 1000), (42, 43, 1000), (2, 3, 7)] g56 g66 → P60 x63 g66 → (¬ x63 = 0 → ∀ b69 : Nat, (b69 : Int) = g66 (2) 8 → (b69 = 7 ∨ b69 = 28) → (¬ v99_2 = 25 → ∀ g79 : zF, zFr [(b69 + 13, b69 + 14, 1), (b69 + 14, b69 + 15, 1000)] g66 g79 → ∀ x86 : Int, 0 ≤ x86 → x86 ≤ 1 → ∀ g89 : zF, zFr [] g79 g89 → (¬ x86 = 0 → ∀ g97 : zF, zFr [(2, 3, 7)] g89 g97 → Q 1 g97) ∧ (x86 = 0 → ∀ x104 : Int, 0 ≤ x104 → x104 ≤ 0 → ∀ g107 : zF, zFr [(2, 3, 0), (2, 3, 1)] g89 g107 → Q x104 g107)) ∧ (v99_2 = 25 → ∀ g114 : zF, zFr [(b69 + 13, b69 + 14, 1), (b69 + 14, b69 + 15, 1000)] g66 g114 → ∀ x121 : Int, 0 ≤ x121 → x121 ≤ 1 → ∀ g124 : zF, zFr [] g114 g124 → (¬ x121 = 0 → ∀ g132 : zF, zFr [(2, 3, 7)] g124 g132 → Q 1 g132) ∧ (x121 = 0 → ∀ x139 : Int, 0 ≤ x139 → x139 ≤ 0 → ∀ g142 : zF, zFr [(2, 3, 0), (2, 3, 1)] g124 g142 → Q x139 g142))) ∧ (x63 = 0 → Q 0 g66)) ∧ (x45 = 0 → ∀ x149 : Int, 0 ≤ x149 → x149 ≤ 0 → ∀ g152 : zF, zFr [(2, 3, 0), (2, 3, 1)] g48 g152 → Q x149 g152)) ∧ (v99_3 = 0 → ∀ x159 : Int, 0 ≤ x159 → x159 ≤ 1 → ∀ g162 : zF, zFr [] g36 g162 → (¬ x159 = 0 → ∀ g170 : zF, zFr [(2, 3, 7)] g162 g170 → Q 1 g170) ∧ (x159 = 0 → ∀ x177 : Int, 0 ≤ x177 → x177 ≤ 0 → ∀ g180 : zF, zFr [(2, 3, 0), (2, 3, 1)] g162 g180 → Q x177 g180))) ∧ (x33 = 0 → Q 0 g36)) ∧ (x15 = 0 → ∀ x187 : Int, 0 ≤ x187 → x187 ≤ 0 → ∀ g190 : zF, zFr [(2, 3, 0), (2, 3, 1)] g18 g190 → Q x187 g190))
set_option maxRecDepth 100000 in
theorem cj_1298_c3 {s0 : zF} {Q1 Q2 : Int → zF → Prop} (h1 : b_1298_c3 s0 Q1) (h2 : p_1298_c3 s0 Q2) : b_1298_c3 s0 (fun v g => Q1 v g ∧ Q2 v g) := by
  obtain ⟨I73, I85, I99, h1E, h1_0, h1_1, h1_2⟩ := h1
  obtain ⟨J73, J85, J99, h2E, h2_0, h2_1, h2_2⟩ := h2
  refine ⟨fun n g y0 => I73 n g y0 ∧ J73 g y0, fun n g y0 => I85 n g y0 ∧ J85 g y0, fun n g y0 y1 => I99 n g y0 y1 ∧ J99 g y0 y1, ?_, ?_, ?_, ?_⟩
  · have h1 := h1E
    have h2 := h2E
    clear h1E h2E h1_0 h2_0 h1_1 h2_1 h1_2 h2_2
    intro x192 a2_0 a2_1 a2_2 x199 a2_3 a2_4 a2_5
    replace h1 := h1 x192 a2_0 a2_1 a2_2 x199 a2_3 a2_4 a2_5
    replace h2 := h2 x192 a2_0 a2_1 a2_2 x199 a2_3 a2_4 a2_5
    refine ⟨fun z => ?_, fun z => ?_⟩
    · replace h1 := h1.1 z
      replace h2 := h2.1 z
      obtain ⟨P1, c1, h1⟩ := h1
      refine ⟨P1, c1, ?_⟩
      intro x206 a3_0 a3_1 g209 a3_2 a3_3
      replace h1 := h1 x206 a3_0 a3_1 g209 a3_2 a3_3
      replace h2 := h2 x206 a3_0 a3_1 g209 a3_2
      refine ⟨fun z => ?_, fun z => ?_⟩
      · replace h1 := h1.1 z
        replace h2 := h2.1 z
        refine ⟨fun z => ?_, fun z => ?_⟩
        · replace h1 := h1.1 z
          replace h2 := h2.1 z
          intro b213 a5_0 a5_1 x217 a5_2
          replace h1 := h1 b213 a5_0 a5_1 x217 a5_2
          replace h2 := h2 b213 a5_0 a5_1 x217 a5_2
          obtain ⟨P1, c1, h1⟩ := h1
          refine ⟨P1, c1, ?_⟩
          intro g224 a5_0 a5_1
          replace h1 := h1 g224 a5_0 a5_1
          replace h2 := h2 g224 a5_0
          obtain ⟨P1, c1, h1⟩ := h1
          refine ⟨P1, c1, ?_⟩
          intro g231 a5_0 a5_1
          replace h1 := h1 g231 a5_0 a5_1
          replace h2 := h2 g231 a5_0
          exact ⟨h1, h2⟩
        · replace h1 := h1.2 z
          replace h2 := h2.2 z
          obtain ⟨m, hi⟩ := h1
          exact ⟨m, hi, h2⟩
      · replace h1 := h1.2 z
        replace h2 := h2.2 z
        obtain ⟨m, hi⟩ := h1
        exact ⟨m, hi, h2⟩
    · replace h1 := h1.2 z
      replace h2 := h2.2 z
      intro b233 a3_0 a3_1 x240 a3_2
      replace h1 := h1 b233 a3_0 a3_1 x240 a3_2
      replace h2 := h2 b233 a3_0 a3_1 x240 a3_2
      obtain ⟨P1, c1, h1⟩ := h1
      refine ⟨P1, c1, ?_⟩
      intro g246 a3_0 a3_1
      replace h1 := h1 g246 a3_0 a3_1
      replace h2 := h2 g246 a3_0
      obtain ⟨P1, c1, h1⟩ := h1
      refine ⟨P1, c1, ?_⟩
      intro g253 a3_0 a3_1
      replace h1 := h1 g253 a3_0 a3_1
      replace h2 := h2 g253 a3_0
      exact ⟨h1, h2⟩
  · intro n g v73_2 e0 e1 e2 hI
    have h1 := h1_0 n g v73_2 e0 e1 e2 hI.1
    have h2 := h2_0 g v73_2 e0 e1 e2 hI.2
    clear h1E h2E hI h1_0 h2_0 h1_1 h2_1 h1_2 h2_2
    refine ⟨fun z => ?_, fun z => ?_⟩
    · replace h1 := h1.1 z
      replace h2 := h2.1 z
      refine ⟨fun z => ?_, fun z => ?_⟩
      · replace h1 := h1.1 z
        replace h2 := h2.1 z
        obtain ⟨m, hm, hi⟩ := h1
        exact ⟨m, hm, hi, h2⟩
      · replace h1 := h1.2 z
        replace h2 := h2.2 z
        obtain ⟨m, hm, hi⟩ := h1
        exact ⟨m, hm, hi, h2⟩
    · replace h1 := h1.2 z
      replace h2 := h2.2 z
      obtain ⟨m, hm, hi⟩ := h1
      exact ⟨m, hm, hi, h2⟩
  · intro n g v85_2 e0 e1 e2 hI
    have h1 := h1_1 n g v85_2 e0 e1 e2 hI.1
    have h2 := h2_1 g v85_2 e0 e1 e2 hI.2
    clear h1E h2E hI h1_0 h2_0 h1_1 h2_1 h1_2 h2_2
    obtain ⟨P1, c1, h1⟩ := h1
    refine ⟨P1, c1, ?_⟩
    intro g8 a2_0 a2_1
    replace h1 := h1 g8 a2_0 a2_1
    replace h2 := h2 g8 a2_0
    obtain ⟨m, hm, hi⟩ := h1
    exact ⟨m, hm, hi, h2⟩
  · intro n g v99_2 v99_3 e0 e1 e2 e3 e4 hI
    have h1 := h1_2 n g v99_2 v99_3 e0 e1 e2 e3 e4 hI.1
    have h2 := h2_2 g v99_2 v99_3 e0 e1 e2 e3 e4 hI.2
    clear h1E h2E hI h1_0 h2_0 h1_1 h2_1 h1_2 h2_2
    obtain ⟨P1, c1, h1⟩ := h1
    refine ⟨P1, c1, ?_⟩
    intro x15 a2_0 a2_1 g18 a2_2 a2_3
    replace h1 := h1 x15 a2_0 a2_1 g18 a2_2 a2_3
    replace h2 := h2 x15 a2_0 a2_1 g18 a2_2
    refine ⟨fun z => ?_, fun z => ?_⟩
    · replace h1 := h1.1 z
      replace h2 := h2.1 z
      obtain ⟨P1, c1, h1⟩ := h1
      refine ⟨P1, c1, ?_⟩
      intro g26 a3_0 a3_1
      replace h1 := h1 g26 a3_0 a3_1
      replace h2 := h2 g26 a3_0
      obtain ⟨P1, c1, h1⟩ := h1
      obtain ⟨P2, c2, h2⟩ := h2
      refine ⟨fun v g => P1 v g ∧ P2 v g, cj_1297_c4 c1 c2, ?_⟩
      intro x33 a3_0 a3_1 g36 a3_2 a3_3
      replace h1 := h1 x33 a3_0 a3_1 g36 a3_2 a3_3.1
      replace h2 := h2 x33 a3_0 a3_1 g36 a3_2 a3_3.2
      refine ⟨fun z => ?_, fun z => ?_⟩
      · replace h1 := h1.1 z
        replace h2 := h2.1 z
        refine ⟨fun z => ?_, fun z => ?_⟩
        · replace h1 := h1.1 z
          replace h2 := h2.1 z
          obtain ⟨P1, c1, h1⟩ := h1
          refine ⟨P1, c1, ?_⟩
          intro x45 a5_0 a5_1 g48 a5_2 a5_3
          replace h1 := h1 x45 a5_0 a5_1 g48 a5_2 a5_3
          replace h2 := h2 x45 a5_0 a5_1 g48 a5_2
          refine ⟨fun z => ?_, fun z => ?_⟩
          · replace h1 := h1.1 z
            replace h2 := h2.1 z
            obtain ⟨P1, c1, h1⟩ := h1
            refine ⟨P1, c1, ?_⟩
            intro g56 a6_0 a6_1
            replace h1 := h1 g56 a6_0 a6_1
            replace h2 := h2 g56 a6_0
            obtain ⟨P1, c1, h1⟩ := h1
            obtain ⟨P2, c2, h2⟩ := h2
            refine ⟨fun v g => P1 v g ∧ P2 v g, cj_1297_c4 c1 c2, ?_⟩
            intro x63 a6_0 a6_1 g66 a6_2 a6_3
            replace h1 := h1 x63 a6_0 a6_1 g66 a6_2 a6_3.1
            replace h2 := h2 x63 a6_0 a6_1 g66 a6_2 a6_3.2
            refine ⟨fun z => ?_, fun z => ?_⟩
            · replace h1 := h1.1 z
              replace h2 := h2.1 z
              intro b69 a7_0 a7_1
              replace h1 := h1 b69 a7_0 a7_1
              replace h2 := h2 b69 a7_0 a7_1
              refine ⟨fun z => ?_, fun z => ?_⟩
              · replace h1 := h1.1 z
                replace h2 := h2.1 z
                obtain ⟨P1, c1, h1⟩ := h1
                refine ⟨P1, c1, ?_⟩
                intro g79 a8_0 a8_1
                replace h1 := h1 g79 a8_0 a8_1
                replace h2 := h2 g79 a8_0
                obtain ⟨P1, c1, h1⟩ := h1
                refine ⟨P1, c1, ?_⟩
                intro x86 a8_0 a8_1 g89 a8_2 a8_3
                replace h1 := h1 x86 a8_0 a8_1 g89 a8_2 a8_3
                replace h2 := h2 x86 a8_0 a8_1 g89 a8_2
                refine ⟨fun z => ?_, fun z => ?_⟩
                · replace h1 := h1.1 z
                  replace h2 := h2.1 z
                  obtain ⟨P1, c1, h1⟩ := h1
                  refine ⟨P1, c1, ?_⟩
                  intro g97 a9_0 a9_1
                  replace h1 := h1 g97 a9_0 a9_1
                  replace h2 := h2 g97 a9_0
                  exact ⟨h1, h2⟩
                · replace h1 := h1.2 z
                  replace h2 := h2.2 z
                  obtain ⟨P1, c1, h1⟩ := h1
                  refine ⟨P1, c1, ?_⟩
                  intro x104 a9_0 a9_1 g107 a9_2 a9_3
                  replace h1 := h1 x104 a9_0 a9_1 g107 a9_2 a9_3
                  replace h2 := h2 x104 a9_0 a9_1 g107 a9_2
                  exact ⟨h1, h2⟩
              · replace h1 := h1.2 z
                replace h2 := h2.2 z
                obtain ⟨P1, c1, h1⟩ := h1
                refine ⟨P1, c1, ?_⟩
                intro g114 a8_0 a8_1
                replace h1 := h1 g114 a8_0 a8_1
                replace h2 := h2 g114 a8_0
                obtain ⟨P1, c1, h1⟩ := h1
                refine ⟨P1, c1, ?_⟩
                intro x121 a8_0 a8_1 g124 a8_2 a8_3
                replace h1 := h1 x121 a8_0 a8_1 g124 a8_2 a8_3
                replace h2 := h2 x121 a8_0 a8_1 g124 a8_2
                refine ⟨fun z => ?_, fun z => ?_⟩
                · replace h1 := h1.1 z
                  replace h2 := h2.1 z
                  obtain ⟨P1, c1, h1⟩ := h1
                  refine ⟨P1, c1, ?_⟩
                  intro g132 a9_0 a9_1
                  replace h1 := h1 g132 a9_0 a9_1
                  replace h2 := h2 g132 a9_0
                  exact ⟨h1, h2⟩
                · replace h1 := h1.2 z
                  replace h2 := h2.2 z
                  obtain ⟨P1, c1, h1⟩ := h1
                  refine ⟨P1, c1, ?_⟩
                  intro x139 a9_0 a9_1 g142 a9_2 a9_3
                  replace h1 := h1 x139 a9_0 a9_1 g142 a9_2 a9_3
                  replace h2 := h2 x139 a9_0 a9_1 g142 a9_2
                  exact ⟨h1, h2⟩
            · replace h1 := h1.2 z
              replace h2 := h2.2 z
              exact ⟨h1, h2⟩
          · replace h1 := h1.2 z
            replace h2 := h2.2 z
            obtain ⟨P1, c1, h1⟩ := h1
            refine ⟨P1, c1, ?_⟩
            intro x149 a6_0 a6_1 g152 a6_2 a6_3
            replace h1 := h1 x149 a6_0 a6_1 g152 a6_2 a6_3
            replace h2 := h2 x149 a6_0 a6_1 g152 a6_2
            exact ⟨h1, h2⟩
        · replace h1 := h1.2 z
          replace h2 := h2.2 z
          obtain ⟨P1, c1, h1⟩ := h1
          refine ⟨P1, c1, ?_⟩
          intro x159 a5_0 a5_1 g162 a5_2 a5_3
          replace h1 := h1 x159 a5_0 a5_1 g162 a5_2 a5_3
          replace h2 := h2 x159 a5_0 a5_1 g162 a5_2
          refine ⟨fun z => ?_, fun z => ?_⟩
          · replace h1 := h1.1 z
            replace h2 := h2.1 z
            obtain ⟨P1, c1, h1⟩ := h1
            refine ⟨P1, c1, ?_⟩
            intro g170 a6_0 a6_1
            replace h1 := h1 g170 a6_0 a6_1
            replace h2 := h2 g170 a6_0
            exact ⟨h1, h2⟩
          · replace h1 := h1.2 z
            replace h2 := h2.2 z
            obtain ⟨P1, c1, h1⟩ := h1
            refine ⟨P1, c1, ?_⟩
            intro x177 a6_0 a6_1 g180 a6_2 a6_3
            replace h1 := h1 x177 a6_0 a6_1 g180 a6_2 a6_3
            replace h2 := h2 x177 a6_0 a6_1 g180 a6_2
            exact ⟨h1, h2⟩
      · replace h1 := h1.2 z
        replace h2 := h2.2 z
        exact ⟨h1, h2⟩
    · replace h1 := h1.2 z
      replace h2 := h2.2 z
      obtain ⟨P1, c1, h1⟩ := h1
      refine ⟨P1, c1, ?_⟩
      intro x187 a3_0 a3_1 g190 a3_2 a3_3
      replace h1 := h1 x187 a3_0 a3_1 g190 a3_2 a3_3
      replace h2 := h2 x187 a3_0 a3_1 g190 a3_2
      exact ⟨h1, h2⟩
