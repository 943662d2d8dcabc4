/-! partial conditions of the image (wip/safe/vcp.py) -/
set_option maxRecDepth 100000 in
def p_260 (t : Nat) (s0 : zF) (a0 : Int) (Q : Int → zF → Prop) : Prop :=
  ∀ x4 : Int, x4 = s0 (t + 6) a0.toNat → 0 ≤ x4 → x4 ≤ 3 → ∀ x6 : Int, x6 = zxand x4 2 → 0 ≤ x6 → x6 ≤ 2 → (¬ x6 = 0 → Q 1 s0) ∧ (x6 = 0 → Q 0 s0)
set_option maxRecDepth 100000 in
theorem cj_260 {t : Nat} {s0 : zF} {a0 : Int} {Q1 Q2 : Int → zF → Prop} (h1 : b_260 t s0 a0 Q1) (h2 : p_260 t s0 a0 Q2) : b_260 t s0 a0 (fun v g => Q1 v g ∧ Q2 v g) := by
  unfold b_260 at h1 ⊢
  unfold p_260 at h2
  intro x4 a1_0 a1_1 a1_2 x6 a1_3 a1_4 a1_5
  replace h1 := h1 x4 a1_0 a1_1 a1_2 x6 a1_3 a1_4 a1_5
  replace h2 := h2 x4 a1_0 a1_1 a1_2 x6 a1_3 a1_4 a1_5
  refine ⟨fun z => ?_, fun z => ?_⟩
  · replace h1 := h1.1 z
    replace h2 := h2.1 z
    exact ⟨h1, h2⟩
  · replace h1 := h1.2 z
    replace h2 := h2.2 z
    exact ⟨h1, h2⟩
set_option maxRecDepth 100000 in
def p_2092 (s0 : zF) (a0 : Int) (Q : Int → zF → Prop) : Prop :=
  ∀ x4 : Int, x4 = s0 (1) a0.toNat → 0 ≤ x4 → x4 ≤ 255 → Q x4 s0
set_option maxRecDepth 100000 in
theorem cj_2092 {s0 : zF} {a0 : Int} {Q1 Q2 : Int → zF → Prop} (h1 : b_2092 s0 a0 Q1) (h2 : p_2092 s0 a0 Q2) : b_2092 s0 a0 (fun v g => Q1 v g ∧ Q2 v g) := by
  unfold b_2092 at h1 ⊢
  unfold p_2092 at h2
  intro x4 a1_0 a1_1 a1_2
  replace h1 := h1 x4 a1_0 a1_1 a1_2
  replace h2 := h2 x4 a1_0 a1_1 a1_2
  exact ⟨h1, h2⟩
set_option maxRecDepth 100000 in
def p_2091 (s0 : zF) (a0 : Int) (Q : Int → zF → Prop) : Prop :=
  ∃ P3 : Int → zF → Prop, p_2092 s0 a0 P3 ∧ ∀ x6 : Int, 0 ≤ x6 → x6 ≤ 255 → ∀ g9 : zF, zFr [] s0 g9 → P3 x6 g9 → ∀ x11 : Int, x11 = 256 * x6 → ∀ x13 : Int, x13 = a0 + 1 → ∃ P17 : Int → zF → Prop, p_2092 g9 x13 P17 ∧ ∀ x20 : Int, 0 ≤ x20 → x20 ≤ 255 → ∀ g23 : zF, zFr [] g9 g23 → P17 x20 g23 → ∀ x25 : Int, x25 = x11 + x20 → Q x25 g23
set_option maxRecDepth 100000 in
theorem cj_2091 {s0 : zF} {a0 : Int} {Q1 Q2 : Int → zF → Prop} (h1 : b_2091 s0 a0 Q1) (h2 : p_2091 s0 a0 Q2) : b_2091 s0 a0 (fun v g => Q1 v g ∧ Q2 v g) := by
  unfold b_2091 at h1 ⊢
  unfold p_2091 at h2
  obtain ⟨P1, c1, h1⟩ := h1
  obtain ⟨P2, c2, h2⟩ := h2
  refine ⟨fun v g => P1 v g ∧ P2 v g, cj_2092 c1 c2, ?_⟩
  intro x6 a1_0 a1_1 g9 a1_2 a1_3 x11 a1_4 x13 a1_5
  replace h1 := h1 x6 a1_0 a1_1 g9 a1_2 a1_3.1 x11 a1_4 x13 a1_5
  replace h2 := h2 x6 a1_0 a1_1 g9 a1_2 a1_3.2 x11 a1_4 x13 a1_5
  obtain ⟨P1, c1, h1⟩ := h1
  obtain ⟨P2, c2, h2⟩ := h2
  refine ⟨fun v g => P1 v g ∧ P2 v g, cj_2092 c1 c2, ?_⟩
  intro x20 a1_0 a1_1 g23 a1_2 a1_3 x25 a1_4
  replace h1 := h1 x20 a1_0 a1_1 g23 a1_2 a1_3.1 x25 a1_4
  replace h2 := h2 x20 a1_0 a1_1 g23 a1_2 a1_3.2 x25 a1_4
  exact ⟨h1, h2⟩
set_option maxRecDepth 100000 in
def p_2108 (p0 : Nat) (s0 : zF) (a1 : Int) (Q : Int → zF → Prop) : Prop :=
  ∃ (I5 : zF → Int → Int → Int → Prop),
    (I5 s0 a1 89 0) ∧
    (∀ (g : zF) (v5_1 : Int) (v5_2 : Int) (v5_3 : Int), zFr [] s0 g → 0 ≤ v5_1 → v5_1 ≤ 109 → 0 ≤ v5_2 → v5_2 ≤ 250 → 0 ≤ v5_3 → v5_3 ≤ 109 → I5 g v5_1 v5_2 v5_3 → (v5_3 < v5_1 → ∀ x2 : Int, x2 = zSl p0 → (v5_3 < x2 → ∀ x5 : Int, x5 = 5 * v5_2 → ∀ x10 : Int, x10 = g (p0) v5_3.toNat → (-2147483648 ≤ x5 + x10 ∧ x5 + x10 ≤ 2147483647) → ∀ x12 : Int, x12 = x5 + x10 → (0 ≤ x12) → ∀ x15 : Int, 0 ≤ x15 → x15 < 251 → x15 = x12 % 251 → ∀ x19 : Int, x19 = v5_3 + 1 → I5 g v5_1 x15 x19) ∧ (x2 ≤ v5_3 → Q v5_2 g)) ∧ (v5_1 ≤ v5_3 → Q v5_2 g))
set_option maxRecDepth 100000 in
theorem cj_2108 {p0 : Nat} {s0 : zF} {a1 : Int} {Q1 Q2 : Int → zF → Prop} (h1 : b_2108 p0 s0 a1 Q1) (h2 : p_2108 p0 s0 a1 Q2) : b_2108 p0 s0 a1 (fun v g => Q1 v g ∧ Q2 v g) := by
  obtain ⟨I5, h1E, h1_0⟩ := h1
  obtain ⟨J5, h2E, h2_0⟩ := h2
  refine ⟨fun n g y0 y1 y2 => I5 n g y0 y1 y2 ∧ J5 g y0 y1 y2, ?_, ?_⟩
  · have h1 := h1E
    have h2 := h2E
    clear h1E h2E h1_0 h2_0
    obtain ⟨m, hi⟩ := h1
    exact ⟨m, hi, h2⟩
  · intro n g v5_1 v5_2 v5_3 e0 e1 e2 e3 e4 e5 e6 hI
    have h1 := h1_0 n g v5_1 v5_2 v5_3 e0 e1 e2 e3 e4 e5 e6 hI.1
    have h2 := h2_0 g v5_1 v5_2 v5_3 e0 e1 e2 e3 e4 e5 e6 hI.2
    clear h1E h2E hI h1_0 h2_0
    refine ⟨fun z => ?_, fun z => ?_⟩
    · replace h1 := h1.1 z
      replace h2 := h2.1 z
      intro x2 a3_0
      replace h1 := h1 x2 a3_0
      replace h2 := h2 x2 a3_0
      refine ⟨fun z => ?_, fun z => ?_⟩
      · replace h1 := h1.1 z
        replace h2 := h2.1 z
        intro x5 a4_0 x10 a4_1
        replace h1 := h1 x5 a4_0 x10 a4_1
        replace h2 := h2 x5 a4_0 x10 a4_1
        refine ⟨h1.1, ?_⟩
        replace h2 := h2 h1.1
        replace h1 := h1.2
        intro x12 a4_0
        replace h1 := h1 x12 a4_0
        replace h2 := h2 x12 a4_0
        refine ⟨h1.1, ?_⟩
        replace h2 := h2 h1.1
        replace h1 := h1.2
        intro x15 a4_0 a4_1 a4_2 x19 a4_3
        replace h1 := h1 x15 a4_0 a4_1 a4_2 x19 a4_3
        replace h2 := h2 x15 a4_0 a4_1 a4_2 x19 a4_3
        obtain ⟨m, hm, hi⟩ := h1
        exact ⟨m, hm, hi, h2⟩
      · replace h1 := h1.2 z
        replace h2 := h2.2 z
        exact ⟨h1, h2⟩
    · replace h1 := h1.2 z
      replace h2 := h2.2 z
      exact ⟨h1, h2⟩
set_option maxRecDepth 100000 in
def p_2112 (s0 : zF) (a0 : Int) (a1 : Int) (Q : Int → zF → Prop) : Prop :=
  ∃ (I120 : zF → Int → Int → Int → Int → Prop) (I134 : zF → Int → Int → Int → Int → Prop) (I150 : zF → Int → Int → Prop),
    (∀ x21 : Int, x21 = a1 + 1 → ∃ P25 : Int → zF → Prop, p_2092 s0 x21 P25 ∧ ∀ x28 : Int, 0 ≤ x28 → x28 ≤ 255 → ∀ g31 : zF, zFr [] s0 g31 → P25 x28 g31 → ∀ x33 : Int, x33 = a1 + 2 → ∃ P37 : Int → zF → Prop, p_2092 g31 x33 P37 ∧ ∀ x40 : Int, 0 ≤ x40 → x40 ≤ 255 → ∀ g43 : zF, zFr [] g31 g43 → P37 x40 g43 → ∀ x45 : Int, x45 = x40 - 1 → ∀ x47 : Int, x47 = a1 + 3 → ∃ P51 : Int → zF → Prop, p_2092 g43 x47 P51 ∧ ∀ x54 : Int, 0 ≤ x54 → x54 ≤ 255 → ∀ g57 : zF, zFr [] g43 g57 → P51 x54 g57 → ∀ x59 : Int, x59 = a1 + 4 → ∃ P63 : Int → zF → Prop, p_2092 g57 x59 P63 ∧ ∀ x66 : Int, 0 ≤ x66 → x66 ≤ 255 → ∀ g69 : zF, zFr [] g57 g69 → P63 x66 g69 → ∀ x71 : Int, x71 = x66 - 1 → (1 < x28 → Q 0 g69) ∧ (x28 ≤ 1 → ∀ b74 : Nat, (b74 : Int) = g69 (0) 3 → (b74 = 7 ∨ b74 = 28) → ∀ x78 : Int, x78 = g69 (b74) 2 → 0 ≤ x78 → x78 ≤ 6 → (x45 < x78 → (x71 < x78 → ∀ x84 : Int, x84 = a1 + 5 → ∃ P88 : Int → zF → Prop, p_2091 g69 x84 P88 ∧ ∀ x91 : Int, 0 ≤ x91 → x91 ≤ 65535 → ∀ g94 : zF, zFr [] g69 g94 → P88 x91 g94 → (9999 < x91 → Q 0 g94) ∧ (x91 ≤ 9999 → (¬ x45 = (-1) → (x54 < 1 → Q 0 g94) ∧ (1 ≤ x54 → ∀ x103 : Int, x103 = g94 (b74 + 9) x45.toNat → (x103 < x54 → Q 0 g94) ∧ (x54 ≤ x103 → I120 g94 a0 x28 x45 x71))) ∧ (x45 = (-1) → (¬ x54 = 0 → Q 0 g94) ∧ (x54 = 0 → I120 g94 a0 x28 x45 x71)))) ∧ (x78 ≤ x71 → Q 0 g69)) ∧ (x78 ≤ x45 → Q 0 g69))) ∧
    (∀ (g : zF) (v120_1 : Int) (v120_3 : Int) (v120_4 : Int) (v120_6 : Int), zFr [] s0 g → 0 ≤ v120_1 → v120_1 ≤ 11 → 0 ≤ v120_3 → v120_3 ≤ 1 → (-1) ≤ v120_4 → v120_4 ≤ 5 → (-1) ≤ v120_6 → v120_6 ≤ 5 → I120 g v120_1 v120_3 v120_4 v120_6 → (¬ v120_4 = (-1) → (¬ v120_6 = (-1) → Q 0 g) ∧ (v120_6 = (-1) → I134 g v120_1 v120_3 v120_4 v120_6)) ∧ (v120_4 = (-1) → I134 g v120_1 v120_3 v120_4 v120_6)) ∧
    (∀ (g : zF) (v134_1 : Int) (v134_3 : Int) (v134_4 : Int) (v134_6 : Int), zFr [] s0 g → 0 ≤ v134_1 → v134_1 ≤ 11 → 0 ≤ v134_3 → v134_3 ≤ 1 → (-1) ≤ v134_4 → v134_4 ≤ 5 → (-1) ≤ v134_6 → v134_6 ≤ 5 → I134 g v134_1 v134_3 v134_4 v134_6 → (¬ v134_4 = (-1) → I150 g v134_1 v134_3) ∧ (v134_4 = (-1) → (¬ v134_6 = (-1) → I150 g v134_1 v134_3) ∧ (v134_6 = (-1) → Q 1 g))) ∧
    (∀ (g : zF) (v150_1 : Int) (v150_3 : Int), zFr [] s0 g → 0 ≤ v150_1 → v150_1 ≤ 11 → 0 ≤ v150_3 → v150_3 ≤ 1 → I150 g v150_1 v150_3 → (¬ v150_3 = 1 → Q 0 g) ∧ (v150_3 = 1 → ∀ b6 : Nat, (b6 : Int) = g (0) 3 → (b6 = 7 ∨ b6 = 28) → ∃ P12 : Int → zF → Prop, p_260 b6 g v150_1 P12 ∧ ∀ x15 : Int, 0 ≤ x15 → x15 ≤ 1 → ∀ g18 : zF, zFr [] g g18 → P12 x15 g18 → (¬ x15 = 0 → Q 0 g18) ∧ (x15 = 0 → Q 1 g18)))
set_option maxRecDepth 100000 in
theorem cj_2112 {s0 : zF} {a0 : Int} {a1 : Int} {Q1 Q2 : Int → zF → Prop} (h1 : b_2112 s0 a0 a1 Q1) (h2 : p_2112 s0 a0 a1 Q2) : b_2112 s0 a0 a1 (fun v g => Q1 v g ∧ Q2 v g) := by
  obtain ⟨I120, I134, I150, h1E, h1_0, h1_1, h1_2⟩ := h1
  obtain ⟨J120, J134, J150, h2E, h2_0, h2_1, h2_2⟩ := h2
  refine ⟨fun n g y0 y1 y2 y3 => I120 n g y0 y1 y2 y3 ∧ J120 g y0 y1 y2 y3, fun n g y0 y1 y2 y3 => I134 n g y0 y1 y2 y3 ∧ J134 g y0 y1 y2 y3, fun n g y0 y1 => I150 n g y0 y1 ∧ J150 g y0 y1, ?_, ?_, ?_, ?_⟩
  · have h1 := h1E
    have h2 := h2E
    clear h1E h2E h1_0 h2_0 h1_1 h2_1 h1_2 h2_2
    intro x21 a2_0
    replace h1 := h1 x21 a2_0
    replace h2 := h2 x21 a2_0
    obtain ⟨P1, c1, h1⟩ := h1
    obtain ⟨P2, c2, h2⟩ := h2
    refine ⟨fun v g => P1 v g ∧ P2 v g, cj_2092 c1 c2, ?_⟩
    intro x28 a2_0 a2_1 g31 a2_2 a2_3 x33 a2_4
    replace h1 := h1 x28 a2_0 a2_1 g31 a2_2 a2_3.1 x33 a2_4
    replace h2 := h2 x28 a2_0 a2_1 g31 a2_2 a2_3.2 x33 a2_4
    obtain ⟨P1, c1, h1⟩ := h1
    obtain ⟨P2, c2, h2⟩ := h2
    refine ⟨fun v g => P1 v g ∧ P2 v g, cj_2092 c1 c2, ?_⟩
    intro x40 a2_0 a2_1 g43 a2_2 a2_3 x45 a2_4 x47 a2_5
    replace h1 := h1 x40 a2_0 a2_1 g43 a2_2 a2_3.1 x45 a2_4 x47 a2_5
    replace h2 := h2 x40 a2_0 a2_1 g43 a2_2 a2_3.2 x45 a2_4 x47 a2_5
    obtain ⟨P1, c1, h1⟩ := h1
    obtain ⟨P2, c2, h2⟩ := h2
    refine ⟨fun v g => P1 v g ∧ P2 v g, cj_2092 c1 c2, ?_⟩
    intro x54 a2_0 a2_1 g57 a2_2 a2_3 x59 a2_4
    replace h1 := h1 x54 a2_0 a2_1 g57 a2_2 a2_3.1 x59 a2_4
    replace h2 := h2 x54 a2_0 a2_1 g57 a2_2 a2_3.2 x59 a2_4
    obtain ⟨P1, c1, h1⟩ := h1
    obtain ⟨P2, c2, h2⟩ := h2
    refine ⟨fun v g => P1 v g ∧ P2 v g, cj_2092 c1 c2, ?_⟩
    intro x66 a2_0 a2_1 g69 a2_2 a2_3 x71 a2_4
    replace h1 := h1 x66 a2_0 a2_1 g69 a2_2 a2_3.1 x71 a2_4
    replace h2 := h2 x66 a2_0 a2_1 g69 a2_2 a2_3.2 x71 a2_4
    refine ⟨fun z => ?_, fun z => ?_⟩
    · replace h1 := h1.1 z
      replace h2 := h2.1 z
      exact ⟨h1, h2⟩
    · replace h1 := h1.2 z
      replace h2 := h2.2 z
      intro b74 a3_0 a3_1 x78 a3_2 a3_3 a3_4
      replace h1 := h1 b74 a3_0 a3_1 x78 a3_2 a3_3 a3_4
      replace h2 := h2 b74 a3_0 a3_1 x78 a3_2 a3_3 a3_4
      refine ⟨fun z => ?_, fun z => ?_⟩
      · replace h1 := h1.1 z
        replace h2 := h2.1 z
        refine ⟨fun z => ?_, fun z => ?_⟩
        · replace h1 := h1.1 z
          replace h2 := h2.1 z
          intro x84 a5_0
          replace h1 := h1 x84 a5_0
          replace h2 := h2 x84 a5_0
          obtain ⟨P1, c1, h1⟩ := h1
          obtain ⟨P2, c2, h2⟩ := h2
          refine ⟨fun v g => P1 v g ∧ P2 v g, cj_2091 c1 c2, ?_⟩
          intro x91 a5_0 a5_1 g94 a5_2 a5_3
          replace h1 := h1 x91 a5_0 a5_1 g94 a5_2 a5_3.1
          replace h2 := h2 x91 a5_0 a5_1 g94 a5_2 a5_3.2
          refine ⟨fun z => ?_, fun z => ?_⟩
          · replace h1 := h1.1 z
            replace h2 := h2.1 z
            exact ⟨h1, h2⟩
          · replace h1 := h1.2 z
            replace h2 := h2.2 z
            refine ⟨fun z => ?_, fun z => ?_⟩
            · replace h1 := h1.1 z
              replace h2 := h2.1 z
              refine ⟨fun z => ?_, fun z => ?_⟩
              · replace h1 := h1.1 z
                replace h2 := h2.1 z
                exact ⟨h1, h2⟩
              · replace h1 := h1.2 z
                replace h2 := h2.2 z
                intro x103 a8_0
                replace h1 := h1 x103 a8_0
                replace h2 := h2 x103 a8_0
                refine ⟨fun z => ?_, fun z => ?_⟩
                · replace h1 := h1.1 z
                  replace h2 := h2.1 z
                  exact ⟨h1, h2⟩
                · replace h1 := h1.2 z
                  replace h2 := h2.2 z
                  obtain ⟨m, hi⟩ := h1
                  exact ⟨m, hi, h2⟩
            · replace h1 := h1.2 z
              replace h2 := h2.2 z
              refine ⟨fun z => ?_, fun z => ?_⟩
              · replace h1 := h1.1 z
                replace h2 := h2.1 z
                exact ⟨h1, h2⟩
              · replace h1 := h1.2 z
                replace h2 := h2.2 z
                obtain ⟨m, hi⟩ := h1
                exact ⟨m, hi, h2⟩
        · replace h1 := h1.2 z
          replace h2 := h2.2 z
          exact ⟨h1, h2⟩
      · replace h1 := h1.2 z
        replace h2 := h2.2 z
        exact ⟨h1, h2⟩
  · intro n g v120_1 v120_3 v120_4 v120_6 e0 e1 e2 e3 e4 e5 e6 e7 e8 hI
    have h1 := h1_0 n g v120_1 v120_3 v120_4 v120_6 e0 e1 e2 e3 e4 e5 e6 e7 e8 hI.1
    have h2 := h2_0 g v120_1 v120_3 v120_4 v120_6 e0 e1 e2 e3 e4 e5 e6 e7 e8 hI.2
    clear h1E h2E hI h1_0 h2_0 h1_1 h2_1 h1_2 h2_2
    refine ⟨fun z => ?_, fun z => ?_⟩
    · replace h1 := h1.1 z
      replace h2 := h2.1 z
      refine ⟨fun z => ?_, fun z => ?_⟩
      · replace h1 := h1.1 z
        replace h2 := h2.1 z
        exact ⟨h1, h2⟩
      · replace h1 := h1.2 z
        replace h2 := h2.2 z
        obtain ⟨m, hm, hi⟩ := h1
        exact ⟨m, hm, hi, h2⟩
    · replace h1 := h1.2 z
      replace h2 := h2.2 z
      obtain ⟨m, hm, hi⟩ := h1
      exact ⟨m, hm, hi, h2⟩
  · intro n g v134_1 v134_3 v134_4 v134_6 e0 e1 e2 e3 e4 e5 e6 e7 e8 hI
    have h1 := h1_1 n g v134_1 v134_3 v134_4 v134_6 e0 e1 e2 e3 e4 e5 e6 e7 e8 hI.1
    have h2 := h2_1 g v134_1 v134_3 v134_4 v134_6 e0 e1 e2 e3 e4 e5 e6 e7 e8 hI.2
    clear h1E h2E hI h1_0 h2_0 h1_1 h2_1 h1_2 h2_2
    refine ⟨fun z => ?_, fun z => ?_⟩
    · replace h1 := h1.1 z
      replace h2 := h2.1 z
      obtain ⟨m, hm, hi⟩ := h1
      exact ⟨m, hm, hi, h2⟩
    · replace h1 := h1.2 z
      replace h2 := h2.2 z
      refine ⟨fun z => ?_, fun z => ?_⟩
      · replace h1 := h1.1 z
        replace h2 := h2.1 z
        obtain ⟨m, hm, hi⟩ := h1
        exact ⟨m, hm, hi, h2⟩
      · replace h1 := h1.2 z
        replace h2 := h2.2 z
        exact ⟨h1, h2⟩
  · intro n g v150_1 v150_3 e0 e1 e2 e3 e4 hI
    have h1 := h1_2 n g v150_1 v150_3 e0 e1 e2 e3 e4 hI.1
    have h2 := h2_2 g v150_1 v150_3 e0 e1 e2 e3 e4 hI.2
    clear h1E h2E hI h1_0 h2_0 h1_1 h2_1 h1_2 h2_2
    refine ⟨fun z => ?_, fun z => ?_⟩
    · replace h1 := h1.1 z
      replace h2 := h2.1 z
      exact ⟨h1, h2⟩
    · replace h1 := h1.2 z
      replace h2 := h2.2 z
      intro b6 a3_0 a3_1
      replace h1 := h1 b6 a3_0 a3_1
      replace h2 := h2 b6 a3_0 a3_1
      obtain ⟨P1, c1, h1⟩ := h1
      obtain ⟨P2, c2, h2⟩ := h2
      refine ⟨fun v g => P1 v g ∧ P2 v g, cj_260 c1 c2, ?_⟩
      intro x15 a3_0 a3_1 g18 a3_2 a3_3
      replace h1 := h1 x15 a3_0 a3_1 g18 a3_2 a3_3.1
      replace h2 := h2 x15 a3_0 a3_1 g18 a3_2 a3_3.2
      refine ⟨fun z => ?_, fun z => ?_⟩
      · replace h1 := h1.1 z
        replace h2 := h2.1 z
        exact ⟨h1, h2⟩
      · replace h1 := h1.2 z
        replace h2 := h2.2 z
        exact ⟨h1, h2⟩
set_option maxRecDepth 100000 in
def p_2111 (s0 : zF) (a0 : Int) (Q : Int → zF → Prop) : Prop :=
  ∃ (I77 : zF → Int → Int → Int → Prop) (I158 : zF → Int → Int → Prop),
    (∀ x96 : Int, x96 = s0 (49) 0 → 0 ≤ x96 → x96 ≤ 12 → ∀ x100 : Int, x100 = x96 - 1 → ∀ x102 : Int, 0 ≤ x102 → x100 ≤ x102 → (x102 = 0 ∨ x102 = x100) → ∀ x106 : Int, x106 = 7 * x96 → ∀ x108 : Int, x108 = 2 + x106 → ∀ x110 : Int, x110 = 2 * x102 → ∀ x112 : Int, x112 = x108 + x110 → ∀ x114 : Int, x114 = x112 + 1 → (¬ a0 = x114 → Q 0 s0) ∧ (a0 = x114 → ∀ x117 : Int, x117 = x114 - 1 → ∃ P121 : Int → zF → Prop, p_2092 s0 x117 P121 ∧ ∀ x124 : Int, 0 ≤ x124 → x124 ≤ 255 → ∀ g127 : zF, zFr [] s0 g127 → P121 x124 g127 → ∀ x129 : Int, x129 = x114 - 1 → ∃ P133 : Int → zF → Prop, p_2108 1 g127 x129 P133 ∧ ∀ x136 : Int, 0 ≤ x136 → x136 ≤ 250 → ∀ g139 : zF, zFr [] g127 g139 → P133 x136 g139 → (¬ x124 = x136 → Q 0 g139) ∧ (x124 = x136 → ∃ P144 : Int → zF → Prop, p_2091 g139 0 P144 ∧ ∀ x147 : Int, 0 ≤ x147 → x147 ≤ 65535 → ∀ g150 : zF, zFr [] g139 g150 → P144 x147 g150 → (999 < x147 → Q 0 g150) ∧ (x147 ≤ 999 → I77 g150 x102 0 0)))) ∧
    (∀ (g : zF) (v77_2 : Int) (v77_4 : Int) (v77_5 : Int), zFr [] s0 g → 0 ≤ v77_2 → v77_2 ≤ 11 → 0 ≤ v77_5 → v77_5 ≤ 12 → I77 g v77_2 v77_4 v77_5 → ∀ x1 : Int, x1 = g (49) 0 → 0 ≤ x1 → x1 ≤ 12 → (v77_5 < x1 → ∀ x6 : Int, x6 = 7 * v77_5 → ∀ x8 : Int, x8 = 2 + x6 → ∃ P12 : Int → zF → Prop, p_2092 g x8 P12 ∧ ∀ x15 : Int, 0 ≤ x15 → x15 ≤ 255 → ∀ g18 : zF, zFr [] g g18 → P12 x15 g18 → ∀ b20 : Nat, (b20 : Int) = g18 (0) 3 → (b20 = 7 ∨ b20 = 28) → ∀ x24 : Int, x24 = g18 (b20) 1 → 0 ≤ x24 → x24 ≤ 12 → (x15 < x24 → ∀ x30 : Int, x30 = zxshr v77_4 x15 → ∀ x32 : Int, x32 = zxand x30 1 → 0 ≤ x32 → x32 ≤ 1 → (¬ x32 = 1 → ∀ x36 : Int, x36 = 7 * v77_5 → ∀ x38 : Int, x38 = 2 + x36 → ∃ P42 : Int → zF → Prop, p_2112 g18 x15 x38 P42 ∧ ∀ x45 : Int, 0 ≤ x45 → x45 ≤ 1 → ∀ g48 : zF, zFr [] g18 g48 → P42 x45 g48 → (¬ x45 = 0 → ∀ x52 : Int, x52 = zxshl 1 x15 → ∀ x54 : Int, x54 = zxor v77_4 x52 → ∀ x55 : Int, x55 = v77_5 + 1 → I77 g48 v77_2 x54 x55) ∧ (x45 = 0 → Q 0 g48)) ∧ (x32 = 1 → Q 0 g18)) ∧ (x24 ≤ x15 → Q 0 g18)) ∧ (x1 ≤ v77_5 → I158 g v77_2 0)) ∧
    (∀ (g : zF) (v158_2 : Int) (v158_5 : Int), zFr [] s0 g → 0 ≤ v158_2 → v158_2 ≤ 11 → 0 ≤ v158_5 → v158_5 ≤ 11 → I158 g v158_2 v158_5 → (v158_5 < v158_2 → ∀ x58 : Int, x58 = g (49) 0 → 0 ≤ x58 → x58 ≤ 12 → ∀ x62 : Int, x62 = 7 * x58 → ∀ x64 : Int, x64 = 2 + x62 → ∀ x66 : Int, x66 = 2 * v158_5 → ∀ x68 : Int, x68 = x64 + x66 → ∃ P72 : Int → zF → Prop, p_2092 g x68 P72 ∧ ∀ x75 : Int, 0 ≤ x75 → x75 ≤ 255 → ∀ g78 : zF, zFr [] g g78 → P72 x75 g78 → (1 < x75 → Q 0 g78) ∧ (x75 ≤ 1 → ∀ x81 : Int, x81 = x68 + 1 → ∃ P85 : Int → zF → Prop, p_2092 g78 x81 P85 ∧ ∀ x88 : Int, 0 ≤ x88 → x88 ≤ 255 → ∀ g91 : zF, zFr [] g78 g91 → P85 x88 g91 → (99 < x88 → Q 0 g91) ∧ (x88 ≤ 99 → ∀ x94 : Int, x94 = v158_5 + 1 → I158 g91 v158_2 x94))) ∧ (v158_2 ≤ v158_5 → Q 1 g))
set_option maxRecDepth 100000 in
theorem cj_2111 {s0 : zF} {a0 : Int} {Q1 Q2 : Int → zF → Prop} (h1 : b_2111 s0 a0 Q1) (h2 : p_2111 s0 a0 Q2) : b_2111 s0 a0 (fun v g => Q1 v g ∧ Q2 v g) := by
  obtain ⟨I77, I158, h1E, h1_0, h1_1⟩ := h1
  obtain ⟨J77, J158, h2E, h2_0, h2_1⟩ := h2
  refine ⟨fun n g y0 y1 y2 => I77 n g y0 y1 y2 ∧ J77 g y0 y1 y2, fun n g y0 y1 => I158 n g y0 y1 ∧ J158 g y0 y1, ?_, ?_, ?_⟩
  · have h1 := h1E
    have h2 := h2E
    clear h1E h2E h1_0 h2_0 h1_1 h2_1
    intro x96 a2_0 a2_1 a2_2 x100 a2_3 x102 a2_4 a2_5 a2_6 x106 a2_7 x108 a2_8 x110 a2_9 x112 a2_10 x114 a2_11
    replace h1 := h1 x96 a2_0 a2_1 a2_2 x100 a2_3 x102 a2_4 a2_5 a2_6 x106 a2_7 x108 a2_8 x110 a2_9 x112 a2_10 x114 a2_11
    replace h2 := h2 x96 a2_0 a2_1 a2_2 x100 a2_3 x102 a2_4 a2_5 a2_6 x106 a2_7 x108 a2_8 x110 a2_9 x112 a2_10 x114 a2_11
    refine ⟨fun z => ?_, fun z => ?_⟩
    · replace h1 := h1.1 z
      replace h2 := h2.1 z
      exact ⟨h1, h2⟩
    · replace h1 := h1.2 z
      replace h2 := h2.2 z
      intro x117 a3_0
      replace h1 := h1 x117 a3_0
      replace h2 := h2 x117 a3_0
      obtain ⟨P1, c1, h1⟩ := h1
      obtain ⟨P2, c2, h2⟩ := h2
      refine ⟨fun v g => P1 v g ∧ P2 v g, cj_2092 c1 c2, ?_⟩
      intro x124 a3_0 a3_1 g127 a3_2 a3_3 x129 a3_4
      replace h1 := h1 x124 a3_0 a3_1 g127 a3_2 a3_3.1 x129 a3_4
      replace h2 := h2 x124 a3_0 a3_1 g127 a3_2 a3_3.2 x129 a3_4
      obtain ⟨P1, c1, h1⟩ := h1
      obtain ⟨P2, c2, h2⟩ := h2
      refine ⟨fun v g => P1 v g ∧ P2 v g, cj_2108 c1 c2, ?_⟩
      intro x136 a3_0 a3_1 g139 a3_2 a3_3
      replace h1 := h1 x136 a3_0 a3_1 g139 a3_2 a3_3.1
      replace h2 := h2 x136 a3_0 a3_1 g139 a3_2 a3_3.2
      refine ⟨fun z => ?_, fun z => ?_⟩
      · replace h1 := h1.1 z
        replace h2 := h2.1 z
        exact ⟨h1, h2⟩
      · replace h1 := h1.2 z
        replace h2 := h2.2 z
        obtain ⟨P1, c1, h1⟩ := h1
        obtain ⟨P2, c2, h2⟩ := h2
        refine ⟨fun v g => P1 v g ∧ P2 v g, cj_2091 c1 c2, ?_⟩
        intro x147 a4_0 a4_1 g150 a4_2 a4_3
        replace h1 := h1 x147 a4_0 a4_1 g150 a4_2 a4_3.1
        replace h2 := h2 x147 a4_0 a4_1 g150 a4_2 a4_3.2
        refine ⟨fun z => ?_, fun z => ?_⟩
        · replace h1 := h1.1 z
          replace h2 := h2.1 z
          exact ⟨h1, h2⟩
        · replace h1 := h1.2 z
          replace h2 := h2.2 z
          obtain ⟨m, hi⟩ := h1
          exact ⟨m, hi, h2⟩
  · intro n g v77_2 v77_4 v77_5 e0 e1 e2 e3 e4 hI
    have h1 := h1_0 n g v77_2 v77_4 v77_5 e0 e1 e2 e3 e4 hI.1
    have h2 := h2_0 g v77_2 v77_4 v77_5 e0 e1 e2 e3 e4 hI.2
    clear h1E h2E hI h1_0 h2_0 h1_1 h2_1
    intro x1 a2_0 a2_1 a2_2
    replace h1 := h1 x1 a2_0 a2_1 a2_2
    replace h2 := h2 x1 a2_0 a2_1 a2_2
    refine ⟨fun z => ?_, fun z => ?_⟩
    · replace h1 := h1.1 z
      replace h2 := h2.1 z
      intro x6 a3_0 x8 a3_1
      replace h1 := h1 x6 a3_0 x8 a3_1
      replace h2 := h2 x6 a3_0 x8 a3_1
      obtain ⟨P1, c1, h1⟩ := h1
      obtain ⟨P2, c2, h2⟩ := h2
      refine ⟨fun v g => P1 v g ∧ P2 v g, cj_2092 c1 c2, ?_⟩
      intro x15 a3_0 a3_1 g18 a3_2 a3_3 b20 a3_4 a3_5 x24 a3_6 a3_7 a3_8
      replace h1 := h1 x15 a3_0 a3_1 g18 a3_2 a3_3.1 b20 a3_4 a3_5 x24 a3_6 a3_7 a3_8
      replace h2 := h2 x15 a3_0 a3_1 g18 a3_2 a3_3.2 b20 a3_4 a3_5 x24 a3_6 a3_7 a3_8
      refine ⟨fun z => ?_, fun z => ?_⟩
      · replace h1 := h1.1 z
        replace h2 := h2.1 z
        intro x30 a4_0 x32 a4_1 a4_2 a4_3
        replace h1 := h1 x30 a4_0 x32 a4_1 a4_2 a4_3
        replace h2 := h2 x30 a4_0 x32 a4_1 a4_2 a4_3
        refine ⟨fun z => ?_, fun z => ?_⟩
        · replace h1 := h1.1 z
          replace h2 := h2.1 z
          intro x36 a5_0 x38 a5_1
          replace h1 := h1 x36 a5_0 x38 a5_1
          replace h2 := h2 x36 a5_0 x38 a5_1
          obtain ⟨P1, c1, h1⟩ := h1
          obtain ⟨P2, c2, h2⟩ := h2
          refine ⟨fun v g => P1 v g ∧ P2 v g, cj_2112 c1 c2, ?_⟩
          intro x45 a5_0 a5_1 g48 a5_2 a5_3
          replace h1 := h1 x45 a5_0 a5_1 g48 a5_2 a5_3.1
          replace h2 := h2 x45 a5_0 a5_1 g48 a5_2 a5_3.2
          refine ⟨fun z => ?_, fun z => ?_⟩
          · replace h1 := h1.1 z
            replace h2 := h2.1 z
            intro x52 a6_0 x54 a6_1 x55 a6_2
            replace h1 := h1 x52 a6_0 x54 a6_1 x55 a6_2
            replace h2 := h2 x52 a6_0 x54 a6_1 x55 a6_2
            obtain ⟨m, hm, hi⟩ := h1
            exact ⟨m, hm, hi, h2⟩
          · replace h1 := h1.2 z
            replace h2 := h2.2 z
            exact ⟨h1, h2⟩
        · replace h1 := h1.2 z
          replace h2 := h2.2 z
          exact ⟨h1, h2⟩
      · replace h1 := h1.2 z
        replace h2 := h2.2 z
        exact ⟨h1, h2⟩
    · replace h1 := h1.2 z
      replace h2 := h2.2 z
      obtain ⟨m, hm, hi⟩ := h1
      exact ⟨m, hm, hi, h2⟩
  · intro n g v158_2 v158_5 e0 e1 e2 e3 e4 hI
    have h1 := h1_1 n g v158_2 v158_5 e0 e1 e2 e3 e4 hI.1
    have h2 := h2_1 g v158_2 v158_5 e0 e1 e2 e3 e4 hI.2
    clear h1E h2E hI h1_0 h2_0 h1_1 h2_1
    refine ⟨fun z => ?_, fun z => ?_⟩
    · replace h1 := h1.1 z
      replace h2 := h2.1 z
      intro x58 a3_0 a3_1 a3_2 x62 a3_3 x64 a3_4 x66 a3_5 x68 a3_6
      replace h1 := h1 x58 a3_0 a3_1 a3_2 x62 a3_3 x64 a3_4 x66 a3_5 x68 a3_6
      replace h2 := h2 x58 a3_0 a3_1 a3_2 x62 a3_3 x64 a3_4 x66 a3_5 x68 a3_6
      obtain ⟨P1, c1, h1⟩ := h1
      obtain ⟨P2, c2, h2⟩ := h2
      refine ⟨fun v g => P1 v g ∧ P2 v g, cj_2092 c1 c2, ?_⟩
      intro x75 a3_0 a3_1 g78 a3_2 a3_3
      replace h1 := h1 x75 a3_0 a3_1 g78 a3_2 a3_3.1
      replace h2 := h2 x75 a3_0 a3_1 g78 a3_2 a3_3.2
      refine ⟨fun z => ?_, fun z => ?_⟩
      · replace h1 := h1.1 z
        replace h2 := h2.1 z
        exact ⟨h1, h2⟩
      · replace h1 := h1.2 z
        replace h2 := h2.2 z
        intro x81 a4_0
        replace h1 := h1 x81 a4_0
        replace h2 := h2 x81 a4_0
        obtain ⟨P1, c1, h1⟩ := h1
        obtain ⟨P2, c2, h2⟩ := h2
        refine ⟨fun v g => P1 v g ∧ P2 v g, cj_2092 c1 c2, ?_⟩
        intro x88 a4_0 a4_1 g91 a4_2 a4_3
        replace h1 := h1 x88 a4_0 a4_1 g91 a4_2 a4_3.1
        replace h2 := h2 x88 a4_0 a4_1 g91 a4_2 a4_3.2
        refine ⟨fun z => ?_, fun z => ?_⟩
        · replace h1 := h1.1 z
          replace h2 := h2.1 z
          exact ⟨h1, h2⟩
        · replace h1 := h1.2 z
          replace h2 := h2.2 z
          intro x94 a5_0
          replace h1 := h1 x94 a5_0
          replace h2 := h2 x94 a5_0
          obtain ⟨m, hm, hi⟩ := h1
          exact ⟨m, hm, hi, h2⟩
    · replace h1 := h1.2 z
      replace h2 := h2.2 z
      exact ⟨h1, h2⟩
set_option maxRecDepth 100000 in
def p_2110 (s0 : zF) (Q : Int → zF → Prop) : Prop :=
  ∃ (I50 : zF → Int → Prop) (I192 : zF → Int → Prop),
    (∀ x298 : Int, x298 = s0 (0) 1 → 0 ≤ x298 → x298 ≤ 1600 → ∀ g306 : zF, g306 = zup s0 (0) 1 0 → ∃ P309 : Int → zF → Prop, p_2111 g306 x298 P309 ∧ ∀ x312 : Int, 0 ≤ x312 → x312 ≤ 1 → ∀ g315 : zF, zFr [] g306 g315 → P309 x312 g315 → (¬ x312 = 0 → ∀ b318 : Nat, (b318 : Int) = g315 (0) 3 → (b318 = 7 ∨ b318 = 28) → ∀ g327 : zF, zFr [(49, 50, 0), (49, 50, 1), (50, 62, 1000), (49, 50, 14)] g315 g327 → ∃ P331 : Int → zF → Prop, p_2091 g327 0 P331 ∧ ∀ x334 : Int, 0 ≤ x334 → x334 ≤ 65535 → ∀ g337 : zF, zFr [] g327 g337 → P331 x334 g337 → ∀ g343 : zF, g343 = zup g337 (49) 1 x334 → I50 g343 0) ∧ (x312 = 0 → ∀ g347 : zF, zFr [(385, 386, 1000)] g315 g347 → Q 0 g347)) ∧
    (∀ (g : zF) (v50_2 : Int), zFr [(49, 50, 0), (77, 78, 0), (0, 1, 1), (49, 50, 1), (50, 62, 1000), (385, 386, 1000), (0, 1, 11), (49, 50, 14), (0, 1, 15)] s0 g → 0 ≤ v50_2 → v50_2 ≤ 12 → I50 g v50_2 → ∀ x1 : Int, x1 = g (49) 0 → 0 ≤ x1 → x1 ≤ 12 → (v50_2 < x1 → ∀ x6 : Int, x6 = 7 * v50_2 → ∀ x8 : Int, x8 = 2 + x6 → ∃ P12 : Int → zF → Prop, p_2092 g x8 P12 ∧ ∀ x15 : Int, 0 ≤ x15 → x15 ≤ 255 → ∀ g18 : zF, zFr [] g g18 → P12 x15 g18 → (x15 ≤ 11) → ∀ g25 : zF, g25 = zup g18 (50) v50_2.toNat x15 → ∀ x26 : Int, x26 = x8 + 1 → ∃ P30 : Int → zF → Prop, p_2092 g25 x26 P30 ∧ ∀ x33 : Int, 0 ≤ x33 → x33 ≤ 255 → ∀ g36 : zF, zFr [] g25 g36 → P30 x33 g36 → (¬ x33 = 1 → ∀ g43 : zF, g43 = zup g36 (51) x15.toNat 0 → ∀ x44 : Int, x44 = x8 + 2 → ∃ P48 : Int → zF → Prop, p_2092 g43 x44 P48 ∧ ∀ x51 : Int, 0 ≤ x51 → x51 ≤ 255 → ∀ g54 : zF, zFr [] g43 g54 → P48 x51 g54 → ∀ x56 : Int, x56 = x51 - 1 → (x56 ≤ 5) → ∀ g63 : zF, g63 = zup g54 (52) x15.toNat x56 → ∀ x64 : Int, x64 = x8 + 3 → ∃ P68 : Int → zF → Prop, p_2092 g63 x64 P68 ∧ ∀ x71 : Int, 0 ≤ x71 → x71 ≤ 255 → ∀ g74 : zF, zFr [] g63 g74 → P68 x71 g74 → ∀ g80 : zF, g80 = zup g74 (53) x15.toNat x71 → ∀ x81 : Int, x81 = x8 + 4 → ∃ P85 : Int → zF → Prop, p_2092 g80 x81 P85 ∧ ∀ x88 : Int, 0 ≤ x88 → x88 ≤ 255 → ∀ g91 : zF, zFr [] g80 g91 → P85 x88 g91 → ∀ x93 : Int, x93 = x88 - 1 → (x93 ≤ 5) → ∀ g100 : zF, g100 = zup g91 (54) x15.toNat x93 → ∀ x101 : Int, x101 = x8 + 5 → ∃ P105 : Int → zF → Prop, p_2091 g100 x101 P105 ∧ ∀ x108 : Int, 0 ≤ x108 → x108 ≤ 65535 → ∀ g111 : zF, zFr [] g100 g111 → P105 x108 g111 → ∀ g117 : zF, g117 = zup g111 (57) x15.toNat x108 → ∀ x118 : Int, x118 = v50_2 + 1 → I50 g117 x118) ∧ (x33 = 1 → ∀ g124 : zF, g124 = zup g36 (51) x15.toNat 1 → ∀ x125 : Int, x125 = x8 + 2 → ∃ P129 : Int → zF → Prop, p_2092 g124 x125 P129 ∧ ∀ x132 : Int, 0 ≤ x132 → x132 ≤ 255 → ∀ g135 : zF, zFr [] g124 g135 → P129 x132 g135 → ∀ x137 : Int, x137 = x132 - 1 → (x137 ≤ 5) → ∀ g144 : zF, g144 = zup g135 (52) x15.toNat x137 → ∀ x145 : Int, x145 = x8 + 3 → ∃ P149 : Int → zF → Prop, p_2092 g144 x145 P149 ∧ ∀ x152 : Int, 0 ≤ x152 → x152 ≤ 255 → ∀ g155 : zF, zFr [] g144 g155 → P149 x152 g155 → ∀ g161 : zF, g161 = zup g155 (53) x15.toNat x152 → ∀ x162 : Int, x162 = x8 + 4 → ∃ P166 : Int → zF → Prop, p_2092 g161 x162 P166 ∧ ∀ x169 : Int, 0 ≤ x169 → x169 ≤ 255 → ∀ g172 : zF, zFr [] g161 g172 → P166 x169 g172 → ∀ x174 : Int, x174 = x169 - 1 → (x174 ≤ 5) → ∀ g181 : zF, g181 = zup g172 (54) x15.toNat x174 → ∀ x182 : Int, x182 = x8 + 5 → ∃ P186 : Int → zF → Prop, p_2091 g181 x182 P186 ∧ ∀ x189 : Int, 0 ≤ x189 → x189 ≤ 65535 → ∀ g192 : zF, zFr [] g181 g192 → P186 x189 g192 → ∀ g198 : zF, g198 = zup g192 (57) x15.toNat x189 → ∀ x199 : Int, x199 = v50_2 + 1 → I50 g198 x199)) ∧ (x1 ≤ v50_2 → I192 g 0)) ∧
    (∀ (g : zF) (v192_2 : Int), zFr [(49, 50, 0), (77, 78, 0), (0, 1, 1), (49, 50, 1), (50, 62, 1000), (385, 386, 1000), (0, 1, 11), (49, 50, 14), (0, 1, 15)] s0 g → 0 ≤ v192_2 → v192_2 ≤ 11 → I192 g v192_2 → ∀ x201 : Int, x201 = g (49) 0 → 0 ≤ x201 → x201 ≤ 12 → ∀ x205 : Int, x205 = x201 - 1 → (v192_2 < x205 → ∀ x208 : Int, x208 = 7 * x201 → ∀ x210 : Int, x210 = 2 + x208 → ∀ x212 : Int, x212 = 2 * v192_2 → ∀ x214 : Int, x214 = x210 + x212 → ∃ P218 : Int → zF → Prop, p_2092 g x214 P218 ∧ ∀ x221 : Int, 0 ≤ x221 → x221 ≤ 255 → ∀ g224 : zF, zFr [] g g224 → P218 x221 g224 → (¬ x221 = 1 → ∀ g231 : zF, g231 = zup g224 (60) v192_2.toNat 0 → ∀ x232 : Int, x232 = x214 + 1 → ∃ P236 : Int → zF → Prop, p_2092 g231 x232 P236 ∧ ∀ x239 : Int, 0 ≤ x239 → x239 ≤ 255 → ∀ g242 : zF, zFr [] g231 g242 → P236 x239 g242 → ∀ g248 : zF, g248 = zup g242 (61) v192_2.toNat x239 → ∀ x249 : Int, x249 = v192_2 + 1 → I192 g248 x249) ∧ (x221 = 1 → ∀ g255 : zF, g255 = zup g224 (60) v192_2.toNat 1 → ∀ x256 : Int, x256 = x214 + 1 → ∃ P260 : Int → zF → Prop, p_2092 g255 x256 P260 ∧ ∀ x263 : Int, 0 ≤ x263 → x263 ≤ 255 → ∀ g266 : zF, zFr [] g255 g266 → P260 x263 g266 → ∀ g272 : zF, g272 = zup g266 (61) v192_2.toNat x263 → ∀ x273 : Int, x273 = v192_2 + 1 → I192 g272 x273)) ∧ (x205 ≤ v192_2 → ∀ g280 : zF, zFr [(77, 78, 0)] g g280 → ∀ g286 : zF, g286 = zup g280 (0) 11 0 → ∀ x287 : Int, x287 = g286 (0) 15 → ∀ x292 : Int, x292 = zxadd x287 1 → ∀ g297 : zF, g297 = zup g286 (0) 15 x292 → Q 1 g297))
set_option maxRecDepth 100000 in
theorem cj_2110 {s0 : zF} {Q1 Q2 : Int → zF → Prop} (h1 : b_2110 s0 Q1) (h2 : p_2110 s0 Q2) : b_2110 s0 (fun v g => Q1 v g ∧ Q2 v g) := by
  obtain ⟨I50, I192, h1E, h1_0, h1_1⟩ := h1
  obtain ⟨J50, J192, h2E, h2_0, h2_1⟩ := h2
  refine ⟨fun n g y0 => I50 n g y0 ∧ J50 g y0, fun n g y0 => I192 n g y0 ∧ J192 g y0, ?_, ?_, ?_⟩
  · have h1 := h1E
    have h2 := h2E
    clear h1E h2E h1_0 h2_0 h1_1 h2_1
    intro x298 a2_0 a2_1 a2_2 g306 a2_3
    replace h1 := h1 x298 a2_0 a2_1 a2_2 g306 a2_3
    replace h2 := h2 x298 a2_0 a2_1 a2_2 g306 a2_3
    obtain ⟨P1, c1, h1⟩ := h1
    obtain ⟨P2, c2, h2⟩ := h2
    refine ⟨fun v g => P1 v g ∧ P2 v g, cj_2111 c1 c2, ?_⟩
    intro x312 a2_0 a2_1 g315 a2_2 a2_3
    replace h1 := h1 x312 a2_0 a2_1 g315 a2_2 a2_3.1
    replace h2 := h2 x312 a2_0 a2_1 g315 a2_2 a2_3.2
    refine ⟨fun z => ?_, fun z => ?_⟩
    · replace h1 := h1.1 z
      replace h2 := h2.1 z
      intro b318 a3_0 a3_1
      replace h1 := h1 b318 a3_0 a3_1
      replace h2 := h2 b318 a3_0 a3_1
      obtain ⟨P1, c1, h1⟩ := h1
      refine ⟨P1, c1, ?_⟩
      intro g327 a3_0 a3_1
      replace h1 := h1 g327 a3_0 a3_1
      replace h2 := h2 g327 a3_0
      obtain ⟨P1, c1, h1⟩ := h1
      obtain ⟨P2, c2, h2⟩ := h2
      refine ⟨fun v g => P1 v g ∧ P2 v g, cj_2091 c1 c2, ?_⟩
      intro x334 a3_0 a3_1 g337 a3_2 a3_3 g343 a3_4
      replace h1 := h1 x334 a3_0 a3_1 g337 a3_2 a3_3.1 g343 a3_4
      replace h2 := h2 x334 a3_0 a3_1 g337 a3_2 a3_3.2 g343 a3_4
      obtain ⟨m, hi⟩ := h1
      exact ⟨m, hi, h2⟩
    · replace h1 := h1.2 z
      replace h2 := h2.2 z
      intro g347 a3_0
      replace h1 := h1 g347 a3_0
      replace h2 := h2 g347 a3_0
      exact ⟨h1, h2⟩
  · intro n g v50_2 e0 e1 e2 hI
    have h1 := h1_0 n g v50_2 e0 e1 e2 hI.1
    have h2 := h2_0 g v50_2 e0 e1 e2 hI.2
    clear h1E h2E hI h1_0 h2_0 h1_1 h2_1
    intro x1 a2_0 a2_1 a2_2
    replace h1 := h1 x1 a2_0 a2_1 a2_2
    replace h2 := h2 x1 a2_0 a2_1 a2_2
    refine ⟨fun z => ?_, fun z => ?_⟩
    · replace h1 := h1.1 z
      replace h2 := h2.1 z
      intro x6 a3_0 x8 a3_1
      replace h1 := h1 x6 a3_0 x8 a3_1
      replace h2 := h2 x6 a3_0 x8 a3_1
      obtain ⟨P1, c1, h1⟩ := h1
      obtain ⟨P2, c2, h2⟩ := h2
      refine ⟨fun v g => P1 v g ∧ P2 v g, cj_2092 c1 c2, ?_⟩
      intro x15 a3_0 a3_1 g18 a3_2 a3_3
      replace h1 := h1 x15 a3_0 a3_1 g18 a3_2 a3_3.1
      replace h2 := h2 x15 a3_0 a3_1 g18 a3_2 a3_3.2
      refine ⟨h1.1, ?_⟩
      replace h2 := h2 h1.1
      replace h1 := h1.2
      intro g25 a3_0 x26 a3_1
      replace h1 := h1 g25 a3_0 x26 a3_1
      replace h2 := h2 g25 a3_0 x26 a3_1
      obtain ⟨P1, c1, h1⟩ := h1
      obtain ⟨P2, c2, h2⟩ := h2
      refine ⟨fun v g => P1 v g ∧ P2 v g, cj_2092 c1 c2, ?_⟩
      intro x33 a3_0 a3_1 g36 a3_2 a3_3
      replace h1 := h1 x33 a3_0 a3_1 g36 a3_2 a3_3.1
      replace h2 := h2 x33 a3_0 a3_1 g36 a3_2 a3_3.2
      refine ⟨fun z => ?_, fun z => ?_⟩
      · replace h1 := h1.1 z
        replace h2 := h2.1 z
        intro g43 a4_0 x44 a4_1
        replace h1 := h1 g43 a4_0 x44 a4_1
        replace h2 := h2 g43 a4_0 x44 a4_1
        obtain ⟨P1, c1, h1⟩ := h1
        obtain ⟨P2, c2, h2⟩ := h2
        refine ⟨fun v g => P1 v g ∧ P2 v g, cj_2092 c1 c2, ?_⟩
        intro x51 a4_0 a4_1 g54 a4_2 a4_3 x56 a4_4
        replace h1 := h1 x51 a4_0 a4_1 g54 a4_2 a4_3.1 x56 a4_4
        replace h2 := h2 x51 a4_0 a4_1 g54 a4_2 a4_3.2 x56 a4_4
        refine ⟨h1.1, ?_⟩
        replace h2 := h2 h1.1
        replace h1 := h1.2
        intro g63 a4_0 x64 a4_1
        replace h1 := h1 g63 a4_0 x64 a4_1
        replace h2 := h2 g63 a4_0 x64 a4_1
        obtain ⟨P1, c1, h1⟩ := h1
        obtain ⟨P2, c2, h2⟩ := h2
        refine ⟨fun v g => P1 v g ∧ P2 v g, cj_2092 c1 c2, ?_⟩
        intro x71 a4_0 a4_1 g74 a4_2 a4_3 g80 a4_4 x81 a4_5
        replace h1 := h1 x71 a4_0 a4_1 g74 a4_2 a4_3.1 g80 a4_4 x81 a4_5
        replace h2 := h2 x71 a4_0 a4_1 g74 a4_2 a4_3.2 g80 a4_4 x81 a4_5
        obtain ⟨P1, c1, h1⟩ := h1
        obtain ⟨P2, c2, h2⟩ := h2
        refine ⟨fun v g => P1 v g ∧ P2 v g, cj_2092 c1 c2, ?_⟩
        intro x88 a4_0 a4_1 g91 a4_2 a4_3 x93 a4_4
        replace h1 := h1 x88 a4_0 a4_1 g91 a4_2 a4_3.1 x93 a4_4
        replace h2 := h2 x88 a4_0 a4_1 g91 a4_2 a4_3.2 x93 a4_4
        refine ⟨h1.1, ?_⟩
        replace h2 := h2 h1.1
        replace h1 := h1.2
        intro g100 a4_0 x101 a4_1
        replace h1 := h1 g100 a4_0 x101 a4_1
        replace h2 := h2 g100 a4_0 x101 a4_1
        obtain ⟨P1, c1, h1⟩ := h1
        obtain ⟨P2, c2, h2⟩ := h2
        refine ⟨fun v g => P1 v g ∧ P2 v g, cj_2091 c1 c2, ?_⟩
        intro x108 a4_0 a4_1 g111 a4_2 a4_3 g117 a4_4 x118 a4_5
        replace h1 := h1 x108 a4_0 a4_1 g111 a4_2 a4_3.1 g117 a4_4 x118 a4_5
        replace h2 := h2 x108 a4_0 a4_1 g111 a4_2 a4_3.2 g117 a4_4 x118 a4_5
        obtain ⟨m, hm, hi⟩ := h1
        exact ⟨m, hm, hi, h2⟩
      · replace h1 := h1.2 z
        replace h2 := h2.2 z
        intro g124 a4_0 x125 a4_1
        replace h1 := h1 g124 a4_0 x125 a4_1
        replace h2 := h2 g124 a4_0 x125 a4_1
        obtain ⟨P1, c1, h1⟩ := h1
        obtain ⟨P2, c2, h2⟩ := h2
        refine ⟨fun v g => P1 v g ∧ P2 v g, cj_2092 c1 c2, ?_⟩
        intro x132 a4_0 a4_1 g135 a4_2 a4_3 x137 a4_4
        replace h1 := h1 x132 a4_0 a4_1 g135 a4_2 a4_3.1 x137 a4_4
        replace h2 := h2 x132 a4_0 a4_1 g135 a4_2 a4_3.2 x137 a4_4
        refine ⟨h1.1, ?_⟩
        replace h2 := h2 h1.1
        replace h1 := h1.2
        intro g144 a4_0 x145 a4_1
        replace h1 := h1 g144 a4_0 x145 a4_1
        replace h2 := h2 g144 a4_0 x145 a4_1
        obtain ⟨P1, c1, h1⟩ := h1
        obtain ⟨P2, c2, h2⟩ := h2
        refine ⟨fun v g => P1 v g ∧ P2 v g, cj_2092 c1 c2, ?_⟩
        intro x152 a4_0 a4_1 g155 a4_2 a4_3 g161 a4_4 x162 a4_5
        replace h1 := h1 x152 a4_0 a4_1 g155 a4_2 a4_3.1 g161 a4_4 x162 a4_5
        replace h2 := h2 x152 a4_0 a4_1 g155 a4_2 a4_3.2 g161 a4_4 x162 a4_5
        obtain ⟨P1, c1, h1⟩ := h1
        obtain ⟨P2, c2, h2⟩ := h2
        refine ⟨fun v g => P1 v g ∧ P2 v g, cj_2092 c1 c2, ?_⟩
        intro x169 a4_0 a4_1 g172 a4_2 a4_3 x174 a4_4
        replace h1 := h1 x169 a4_0 a4_1 g172 a4_2 a4_3.1 x174 a4_4
        replace h2 := h2 x169 a4_0 a4_1 g172 a4_2 a4_3.2 x174 a4_4
        refine ⟨h1.1, ?_⟩
        replace h2 := h2 h1.1
        replace h1 := h1.2
        intro g181 a4_0 x182 a4_1
        replace h1 := h1 g181 a4_0 x182 a4_1
        replace h2 := h2 g181 a4_0 x182 a4_1
        obtain ⟨P1, c1, h1⟩ := h1
        obtain ⟨P2, c2, h2⟩ := h2
        refine ⟨fun v g => P1 v g ∧ P2 v g, cj_2091 c1 c2, ?_⟩
        intro x189 a4_0 a4_1 g192 a4_2 a4_3 g198 a4_4 x199 a4_5
        replace h1 := h1 x189 a4_0 a4_1 g192 a4_2 a4_3.1 g198 a4_4 x199 a4_5
        replace h2 := h2 x189 a4_0 a4_1 g192 a4_2 a4_3.2 g198 a4_4 x199 a4_5
        obtain ⟨m, hm, hi⟩ := h1
        exact ⟨m, hm, hi, h2⟩
    · replace h1 := h1.2 z
      replace h2 := h2.2 z
      obtain ⟨m, hm, hi⟩ := h1
      exact ⟨m, hm, hi, h2⟩
  · intro n g v192_2 e0 e1 e2 hI
    have h1 := h1_1 n g v192_2 e0 e1 e2 hI.1
    have h2 := h2_1 g v192_2 e0 e1 e2 hI.2
    clear h1E h2E hI h1_0 h2_0 h1_1 h2_1
    intro x201 a2_0 a2_1 a2_2 x205 a2_3
    replace h1 := h1 x201 a2_0 a2_1 a2_2 x205 a2_3
    replace h2 := h2 x201 a2_0 a2_1 a2_2 x205 a2_3
    refine ⟨fun z => ?_, fun z => ?_⟩
    · replace h1 := h1.1 z
      replace h2 := h2.1 z
      intro x208 a3_0 x210 a3_1 x212 a3_2 x214 a3_3
      replace h1 := h1 x208 a3_0 x210 a3_1 x212 a3_2 x214 a3_3
      replace h2 := h2 x208 a3_0 x210 a3_1 x212 a3_2 x214 a3_3
      obtain ⟨P1, c1, h1⟩ := h1
      obtain ⟨P2, c2, h2⟩ := h2
      refine ⟨fun v g => P1 v g ∧ P2 v g, cj_2092 c1 c2, ?_⟩
      intro x221 a3_0 a3_1 g224 a3_2 a3_3
      replace h1 := h1 x221 a3_0 a3_1 g224 a3_2 a3_3.1
      replace h2 := h2 x221 a3_0 a3_1 g224 a3_2 a3_3.2
      refine ⟨fun z => ?_, fun z => ?_⟩
      · replace h1 := h1.1 z
        replace h2 := h2.1 z
        intro g231 a4_0 x232 a4_1
        replace h1 := h1 g231 a4_0 x232 a4_1
        replace h2 := h2 g231 a4_0 x232 a4_1
        obtain ⟨P1, c1, h1⟩ := h1
        obtain ⟨P2, c2, h2⟩ := h2
        refine ⟨fun v g => P1 v g ∧ P2 v g, cj_2092 c1 c2, ?_⟩
        intro x239 a4_0 a4_1 g242 a4_2 a4_3 g248 a4_4 x249 a4_5
        replace h1 := h1 x239 a4_0 a4_1 g242 a4_2 a4_3.1 g248 a4_4 x249 a4_5
        replace h2 := h2 x239 a4_0 a4_1 g242 a4_2 a4_3.2 g248 a4_4 x249 a4_5
        obtain ⟨m, hm, hi⟩ := h1
        exact ⟨m, hm, hi, h2⟩
      · replace h1 := h1.2 z
        replace h2 := h2.2 z
        intro g255 a4_0 x256 a4_1
        replace h1 := h1 g255 a4_0 x256 a4_1
        replace h2 := h2 g255 a4_0 x256 a4_1
        obtain ⟨P1, c1, h1⟩ := h1
        obtain ⟨P2, c2, h2⟩ := h2
        refine ⟨fun v g => P1 v g ∧ P2 v g, cj_2092 c1 c2, ?_⟩
        intro x263 a4_0 a4_1 g266 a4_2 a4_3 g272 a4_4 x273 a4_5
        replace h1 := h1 x263 a4_0 a4_1 g266 a4_2 a4_3.1 g272 a4_4 x273 a4_5
        replace h2 := h2 x263 a4_0 a4_1 g266 a4_2 a4_3.2 g272 a4_4 x273 a4_5
        obtain ⟨m, hm, hi⟩ := h1
        exact ⟨m, hm, hi, h2⟩
    · replace h1 := h1.2 z
      replace h2 := h2.2 z
      obtain ⟨P1, c1, h1⟩ := h1
      refine ⟨P1, c1, ?_⟩
      intro g280 a3_0 a3_1 g286 a3_2 x287 a3_3 x292 a3_4 g297 a3_5
      replace h1 := h1 g280 a3_0 a3_1 g286 a3_2 x287 a3_3 x292 a3_4 g297 a3_5
      replace h2 := h2 g280 a3_0 g286 a3_2 x287 a3_3 x292 a3_4 g297 a3_5
      exact ⟨h1, h2⟩
