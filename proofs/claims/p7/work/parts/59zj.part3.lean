/-! partial conditions of the reference (wip/safe/vcp.py) -/
set_option maxRecDepth 100000 in
def p_2329 (s0 : zF) (a0 : Int) (Q : zF → Prop) : Prop :=
  ∀ x1 : Int, x1 = s0 (386) 41 → 0 ≤ x1 → x1 ≤ 20 → (x1 ≤ 19) → (0 ≤ a0 ∧ a0 ≤ 5) → ∀ g11 : zF, g11 = zup s0 (409) x1.toNat a0 → ∀ g17 : zF, g17 = zup g11 (410) x1.toNat 0 → ∀ g23 : zF, g23 = zup g17 (411) x1.toNat 1 → ∀ x25 : Int, x25 = g23 (386) 44 → 0 ≤ x25 → x25 ≤ 500 → ∀ g33 : zF, g33 = zup g23 (413) x1.toNat x25 → ∀ x35 : Int, x35 = x1 + 1 → ∀ g41 : zF, g41 = zup g33 (386) 41 x35 → Q g41
set_option maxRecDepth 100000 in
theorem cj_2329 {s0 : zF} {a0 : Int} {Q1 Q2 : zF → Prop} (h1 : b_2329 s0 a0 Q1) (h2 : p_2329 s0 a0 Q2) : b_2329 s0 a0 (fun g => Q1 g ∧ Q2 g) := by
  unfold b_2329 at h1 ⊢
  unfold p_2329 at h2
  intro x1 a1_0 a1_1 a1_2
  replace h1 := h1 x1 a1_0 a1_1 a1_2
  replace h2 := h2 x1 a1_0 a1_1 a1_2
  refine ⟨h1.1, ?_⟩
  replace h2 := h2 h1.1
  replace h1 := h1.2
  refine ⟨h1.1, ?_⟩
  replace h2 := h2 h1.1
  replace h1 := h1.2
  intro g11 a1_0 g17 a1_1 g23 a1_2 x25 a1_3 a1_4 a1_5 g33 a1_6 x35 a1_7 g41 a1_8
  replace h1 := h1 g11 a1_0 g17 a1_1 g23 a1_2 x25 a1_3 a1_4 a1_5 g33 a1_6 x35 a1_7 g41 a1_8
  replace h2 := h2 g11 a1_0 g17 a1_1 g23 a1_2 x25 a1_3 a1_4 a1_5 g33 a1_6 x35 a1_7 g41 a1_8
  exact ⟨h1, h2⟩
set_option maxRecDepth 100000 in
def p_2334 (s0 : zF) (a0 : Int) (Q : zF → Prop) : Prop :=
  ∀ x1 : Int, x1 = s0 (386) 42 → 0 ≤ x1 → x1 ≤ 8 → (¬ x1 = 8 → ∀ x6 : Int, x6 = s0 (386) 8 → 0 ≤ x6 → x6 ≤ 5 → (0 < x6 → Q s0) ∧ (x6 ≤ 0 → ∀ x11 : Int, x11 = x1 + 1 → ∀ g17 : zF, g17 = zup s0 (386) 42 x11 → ∃ P20 : zF → Prop, p_2310 g17 P20 ∧ ∀ g23 : zF, zFr [(386, 387, 3), (386, 387, 4), (386, 387, 5), (386, 387, 6), (386, 387, 7), (386, 387, 8), (386, 387, 9)] g17 g23 → P20 g23 → ∃ P27 : zF → Prop, p_2329 g23 a0 P27 ∧ ∀ g30 : zF, zFr [(409, 412, 1000), (413, 414, 1000), (386, 387, 41)] g23 g30 → P27 g30 → Q g30)) ∧ (x1 = 8 → ∀ x32 : Int, x32 = s0 (386) 4 → 0 ≤ x32 → x32 ≤ 1600 → ∀ x36 : Int, x36 = s0 (386) 8 → 0 ≤ x36 → x36 ≤ 5 → (0 < x36 → Q s0) ∧ (x36 ≤ 0 → ∀ g45 : zF, g45 = zup s0 (386) 8 5 → ∀ g50 : zF, g50 = zup g45 (386) 9 x32 → Q g50))
set_option maxRecDepth 100000 in
theorem cj_2334 {s0 : zF} {a0 : Int} {Q1 Q2 : zF → Prop} (h1 : b_2334 s0 a0 Q1) (h2 : p_2334 s0 a0 Q2) : b_2334 s0 a0 (fun g => Q1 g ∧ Q2 g) := by
  unfold b_2334 at h1 ⊢
  unfold p_2334 at h2
  intro x1 a1_0 a1_1 a1_2
  replace h1 := h1 x1 a1_0 a1_1 a1_2
  replace h2 := h2 x1 a1_0 a1_1 a1_2
  refine ⟨fun z => ?_, fun z => ?_⟩
  · replace h1 := h1.1 z
    replace h2 := h2.1 z
    intro x6 a2_0 a2_1 a2_2
    replace h1 := h1 x6 a2_0 a2_1 a2_2
    replace h2 := h2 x6 a2_0 a2_1 a2_2
    refine ⟨fun z => ?_, fun z => ?_⟩
    · replace h1 := h1.1 z
      replace h2 := h2.1 z
      exact ⟨h1, h2⟩
    · replace h1 := h1.2 z
      replace h2 := h2.2 z
      intro x11 a3_0 g17 a3_1
      replace h1 := h1 x11 a3_0 g17 a3_1
      replace h2 := h2 x11 a3_0 g17 a3_1
      obtain ⟨P1, c1, h1⟩ := h1
      obtain ⟨P2, c2, h2⟩ := h2
      refine ⟨fun g => P1 g ∧ P2 g, cj_2310 c1 c2, ?_⟩
      intro g23 a3_0 a3_1
      replace h1 := h1 g23 a3_0 a3_1.1
      replace h2 := h2 g23 a3_0 a3_1.2
      obtain ⟨P1, c1, h1⟩ := h1
      obtain ⟨P2, c2, h2⟩ := h2
      refine ⟨fun g => P1 g ∧ P2 g, cj_2329 c1 c2, ?_⟩
      intro g30 a3_0 a3_1
      replace h1 := h1 g30 a3_0 a3_1.1
      replace h2 := h2 g30 a3_0 a3_1.2
      exact ⟨h1, h2⟩
  · replace h1 := h1.2 z
    replace h2 := h2.2 z
    intro x32 a2_0 a2_1 a2_2 x36 a2_3 a2_4 a2_5
    replace h1 := h1 x32 a2_0 a2_1 a2_2 x36 a2_3 a2_4 a2_5
    replace h2 := h2 x32 a2_0 a2_1 a2_2 x36 a2_3 a2_4 a2_5
    refine ⟨fun z => ?_, fun z => ?_⟩
    · replace h1 := h1.1 z
      replace h2 := h2.1 z
      exact ⟨h1, h2⟩
    · replace h1 := h1.2 z
      replace h2 := h2.2 z
      intro g45 a3_0 g50 a3_1
      replace h1 := h1 g45 a3_0 g50 a3_1
      replace h2 := h2 g45 a3_0 g50 a3_1
      exact ⟨h1, h2⟩
set_option maxRecDepth 100000 in
def p_2330 (s0 : zF) (Q : Int → zF → Prop) : Prop :=
  ∃ (I34 : zF → Int → Int → Prop) (I60 : zF → Int → Int → Prop) (I87 : zF → Int → Int → Prop) (I121 : zF → Prop) (I137 : zF → Prop) (I157 : zF → Prop) (I175 : zF → Int → Prop) (I197 : zF → Int → Prop) (I223 : zF → Prop) (I337 : zF → Int → Prop),
    (∀ x382 : Int, x382 = s0 (386) 41 → 0 ≤ x382 → x382 ≤ 20 → ∀ x386 : Int, x386 = x382 - 1 → (0 ≤ x386) → ∀ x392 : Int, x392 = s0 (409) x386.toNat → 0 ≤ x392 → x392 ≤ 5 → (¬ x392 = 1 → (¬ x392 = 5 → I34 s0 x386 0) ∧ (x392 = 5 → ∀ x398 : Int, x398 = s0 (411) x386.toNat → 0 ≤ x398 → x398 ≤ 1 → (¬ x398 = 0 → I34 s0 x386 1) ∧ (x398 = 0 → I34 s0 x386 0))) ∧ (x392 = 1 → ∀ x403 : Int, x403 = s0 (411) x386.toNat → 0 ≤ x403 → x403 ≤ 1 → (¬ x403 = 0 → I34 s0 x386 1) ∧ (x403 = 0 → I34 s0 x386 0))) ∧
    (∀ (g : zF) (v34_1 : Int) (v34_2 : Int), zFr [(407, 415, 1000), (386, 387, 3), (386, 387, 34), (386, 387, 4), (386, 387, 41), (386, 387, 42), (386, 387, 44), (386, 387, 5), (386, 387, 6), (386, 387, 7), (386, 387, 8), (386, 387, 9)] s0 g → 0 ≤ v34_1 → v34_1 ≤ 19 → 0 ≤ v34_2 → v34_2 ≤ 1 → I34 g v34_1 v34_2 → (¬ v34_2 = 0 → ∀ x2 : Int, x2 = g (386) 3 → 0 ≤ x2 → x2 ≤ 3 → (¬ x2 = 1 → I60 g v34_1 v34_2) ∧ (x2 = 1 → ∀ y10 : Int, y10 = g (386) 7 → ∀ x11 : Int, (x11 = -1 ∧ y10 < 7237492 ∨ x11 = 0 ∧ y10 = 7237492 ∨ x11 = 1 ∧ 7237492 < y10) → (¬ x11 = 0 → I60 g v34_1 v34_2) ∧ (x11 = 0 → ∀ g19 : zF, zFr [(414, 415, 1000), (386, 387, 44)] g g19 → ∃ P23 : zF → Prop, p_2310 g19 P23 ∧ ∀ g26 : zF, zFr [(386, 387, 3), (386, 387, 4), (386, 387, 5), (386, 387, 6), (386, 387, 7), (386, 387, 8), (386, 387, 9)] g19 g26 → P23 g26 → Q 0 g26))) ∧ (v34_2 = 0 → I60 g v34_1 v34_2)) ∧
    (∀ (g : zF) (v60_1 : Int) (v60_2 : Int), zFr [(407, 415, 1000), (386, 387, 3), (386, 387, 34), (386, 387, 4), (386, 387, 41), (386, 387, 42), (386, 387, 44), (386, 387, 5), (386, 387, 6), (386, 387, 7), (386, 387, 8), (386, 387, 9)] s0 g → 0 ≤ v60_1 → v60_1 ≤ 19 → 0 ≤ v60_2 → v60_2 ≤ 1 → I60 g v60_1 v60_2 → ∀ g32 : zF, g32 = zup g (411) v60_1.toNat 0 → (¬ v60_2 = 0 → ∀ x34 : Int, x34 = g32 (386) 3 → 0 ≤ x34 → x34 ≤ 3 → (¬ x34 = 3 → I87 g32 v60_1 v60_2) ∧ (x34 = 3 → ∀ x39 : Int, x39 = g32 (386) 6 → (¬ x39 = 91 → I87 g32 v60_1 v60_2) ∧ (x39 = 91 → ∃ P46 : zF → Prop, p_2334 g32 5 P46 ∧ ∀ g49 : zF, zFr [(409, 412, 1000), (413, 414, 1000), (386, 387, 3), (386, 387, 4), (386, 387, 41), (386, 387, 42), (386, 387, 5), (386, 387, 6), (386, 387, 7), (386, 387, 8), (386, 387, 9)] g32 g49 → P46 g49 → Q 0 g49))) ∧ (v60_2 = 0 → I87 g32 v60_1 v60_2)) ∧
    (∀ (g : zF) (v87_1 : Int) (v87_2 : Int), zFr [(407, 415, 1000), (386, 387, 3), (386, 387, 34), (386, 387, 4), (386, 387, 41), (386, 387, 42), (386, 387, 44), (386, 387, 5), (386, 387, 6), (386, 387, 7), (386, 387, 8), (386, 387, 9)] s0 g → 0 ≤ v87_1 → v87_1 ≤ 19 → 0 ≤ v87_2 → v87_2 ≤ 1 → I87 g v87_1 v87_2 → (¬ v87_2 = 0 → ∀ x52 : Int, x52 = g (386) 3 → 0 ≤ x52 → x52 ≤ 3 → (¬ x52 = 1 → I121 g) ∧ (x52 = 1 → ∀ y60 : Int, y60 = g (386) 7 → ∀ x61 : Int, (x61 = -1 ∧ y60 < 6384748 ∨ x61 = 0 ∧ y60 = 6384748 ∨ x61 = 1 ∧ 6384748 < y60) → (¬ x61 = 0 → I121 g) ∧ (x61 = 0 → ∀ g69 : zF, zFr [(407, 409, 1000), (386, 387, 34)] g g69 → ∀ g75 : zF, g75 = zup g69 (410) v87_1.toNat 2 → ∃ P78 : zF → Prop, p_2310 g75 P78 ∧ ∀ g81 : zF, zFr [(386, 387, 3), (386, 387, 4), (386, 387, 5), (386, 387, 6), (386, 387, 7), (386, 387, 8), (386, 387, 9)] g75 g81 → P78 g81 → Q 1 g81))) ∧ (v87_2 = 0 → I121 g)) ∧
    (∀ (g : zF), zFr [(407, 415, 1000), (386, 387, 3), (386, 387, 34), (386, 387, 4), (386, 387, 41), (386, 387, 42), (386, 387, 44), (386, 387, 5), (386, 387, 6), (386, 387, 7), (386, 387, 8), (386, 387, 9)] s0 g → I121 g  → ∀ x83 : Int, x83 = g (386) 3 → 0 ≤ x83 → x83 ≤ 3 → (¬ x83 = 3 → I137 g) ∧ (x83 = 3 → ∀ x88 : Int, x88 = g (386) 6 → (¬ x88 = 40 → I137 g) ∧ (x88 = 40 → ∃ P95 : zF → Prop, p_2334 g 2 P95 ∧ ∀ g98 : zF, zFr [(409, 412, 1000), (413, 414, 1000), (386, 387, 3), (386, 387, 4), (386, 387, 41), (386, 387, 42), (386, 387, 5), (386, 387, 6), (386, 387, 7), (386, 387, 8), (386, 387, 9)] g g98 → P95 g98 → Q 0 g98))) ∧
    (∀ (g : zF), zFr [(407, 415, 1000), (386, 387, 3), (386, 387, 34), (386, 387, 4), (386, 387, 41), (386, 387, 42), (386, 387, 44), (386, 387, 5), (386, 387, 6), (386, 387, 7), (386, 387, 8), (386, 387, 9)] s0 g → I137 g  → ∀ x100 : Int, x100 = g (386) 3 → 0 ≤ x100 → x100 ≤ 3 → (¬ x100 = 1 → (¬ x100 = 1 → I223 g) ∧ (x100 = 1 → ∀ y109 : Int, y109 = g (386) 7 → ∀ x110 : Int, (x110 = -1 ∧ y109 < 7168376 ∨ x110 = 0 ∧ y109 = 7168376 ∨ x110 = 1 ∧ 7168376 < y109) → (¬ x110 = 0 → I223 g) ∧ (x110 = 0 → I157 g))) ∧ (x100 = 1 → ∀ y116 : Int, y116 = g (386) 7 → ∀ x117 : Int, (x117 = -1 ∧ y116 < 7170414 ∨ x117 = 0 ∧ y116 = 7170414 ∨ x117 = 1 ∧ 7170414 < y116) → (¬ x117 = 0 → ∀ x120 : Int, (x120 = -1 ∧ y116 < 7168376 ∨ x120 = 0 ∧ y116 = 7168376 ∨ x120 = 1 ∧ 7168376 < y116) → (¬ x120 = 0 → I223 g) ∧ (x120 = 0 → I157 g)) ∧ (x117 = 0 → I157 g))) ∧
    (∀ (g : zF), zFr [(407, 415, 1000), (386, 387, 3), (386, 387, 34), (386, 387, 4), (386, 387, 41), (386, 387, 42), (386, 387, 44), (386, 387, 5), (386, 387, 6), (386, 387, 7), (386, 387, 8), (386, 387, 9)] s0 g → I157 g  → ∀ x123 : Int, x123 = g (386) 3 → 0 ≤ x123 → x123 ≤ 3 → (¬ x123 = 1 → I175 g 16) ∧ (x123 = 1 → ∀ y131 : Int, y131 = g (386) 7 → ∀ x132 : Int, (x132 = -1 ∧ y131 < 7170414 ∨ x132 = 0 ∧ y131 = 7170414 ∨ x132 = 1 ∧ 7170414 < y131) → (¬ x132 = 0 → I175 g 16) ∧ (x132 = 0 → I175 g 15))) ∧
    (∀ (g : zF) (v175_3 : Int), zFr [(407, 415, 1000), (386, 387, 3), (386, 387, 34), (386, 387, 4), (386, 387, 41), (386, 387, 42), (386, 387, 44), (386, 387, 5), (386, 387, 6), (386, 387, 7), (386, 387, 8), (386, 387, 9)] s0 g → 15 ≤ v175_3 → v175_3 ≤ 16 → I175 g v175_3 → ∃ P137 : zF → Prop, p_2310 g P137 ∧ ∀ g140 : zF, zFr [(386, 387, 3), (386, 387, 4), (386, 387, 5), (386, 387, 6), (386, 387, 7), (386, 387, 8), (386, 387, 9)] g g140 → P137 g140 → ∀ x142 : Int, x142 = g140 (386) 3 → 0 ≤ x142 → x142 ≤ 3 → (¬ x142 = 3 → ∀ x147 : Int, x147 = g140 (386) 4 → 0 ≤ x147 → x147 ≤ 1600 → ∀ x151 : Int, x151 = g140 (386) 8 → 0 ≤ x151 → x151 ≤ 5 → (0 < x151 → I197 g140 v175_3) ∧ (x151 ≤ 0 → ∀ g160 : zF, g160 = zup g140 (386) 8 1 → ∀ g165 : zF, g165 = zup g160 (386) 9 x147 → I197 g165 v175_3)) ∧ (x142 = 3 → ∀ x166 : Int, x166 = g140 (386) 6 → (¬ x166 = 40 → ∀ x171 : Int, x171 = g140 (386) 4 → 0 ≤ x171 → x171 ≤ 1600 → ∀ x175 : Int, x175 = g140 (386) 8 → 0 ≤ x175 → x175 ≤ 5 → (0 < x175 → I197 g140 v175_3) ∧ (x175 ≤ 0 → ∀ g184 : zF, g184 = zup g140 (386) 8 1 → ∀ g189 : zF, g189 = zup g184 (386) 9 x171 → I197 g189 v175_3)) ∧ (x166 = 40 → I197 g140 v175_3))) ∧
    (∀ (g : zF) (v197_3 : Int), zFr [(407, 415, 1000), (386, 387, 3), (386, 387, 34), (386, 387, 4), (386, 387, 41), (386, 387, 42), (386, 387, 44), (386, 387, 5), (386, 387, 6), (386, 387, 7), (386, 387, 8), (386, 387, 9)] s0 g → 15 ≤ v197_3 → v197_3 ≤ 16 → I197 g v197_3 → ∃ P192 : zF → Prop, p_2334 g 3 P192 ∧ ∀ g195 : zF, zFr [(409, 412, 1000), (413, 414, 1000), (386, 387, 3), (386, 387, 4), (386, 387, 41), (386, 387, 42), (386, 387, 5), (386, 387, 6), (386, 387, 7), (386, 387, 8), (386, 387, 9)] g g195 → P192 g195 → ∀ x197 : Int, x197 = g195 (386) 8 → 0 ≤ x197 → x197 ≤ 5 → (¬ x197 = 0 → Q 0 g195) ∧ (x197 = 0 → ∀ x202 : Int, x202 = g195 (386) 41 → 0 ≤ x202 → x202 ≤ 20 → ∀ x206 : Int, x206 = x202 - 1 → (0 ≤ x206) → ∀ g213 : zF, g213 = zup g195 (412) x206.toNat v197_3 → Q 0 g213)) ∧
    (∀ (g : zF), zFr [(407, 415, 1000), (386, 387, 3), (386, 387, 34), (386, 387, 4), (386, 387, 41), (386, 387, 42), (386, 387, 44), (386, 387, 5), (386, 387, 6), (386, 387, 7), (386, 387, 8), (386, 387, 9)] s0 g → I223 g  → ∀ x214 : Int, x214 = g (386) 3 → 0 ≤ x214 → x214 ≤ 3 → (¬ x214 = 2 → (¬ x214 = 1 → (¬ x214 = 1 → (¬ x214 = 1 → (¬ x214 = 1 → (¬ x214 = 1 → (¬ x214 = 1 → (¬ x214 = 1 → I337 g (-1)) ∧ (x214 = 1 → ∀ y229 : Int, y229 = g (386) 7 → ∀ x230 : Int, (x230 = -1 ∧ y229 < 1717922932 ∨ x230 = 0 ∧ y229 = 1717922932 ∨ x230 = 1 ∧ 1717922932 < y229) → (¬ x230 = 0 → I337 g (-1)) ∧ (x230 = 0 → I337 g 7))) ∧ (x214 = 1 → ∀ y236 : Int, y236 = g (386) 7 → ∀ x237 : Int, (x237 = -1 ∧ y236 < 108187867505765 ∨ x237 = 0 ∧ y236 = 108187867505765 ∨ x237 = 1 ∧ 108187867505765 < y236) → (¬ x237 = 0 → ∀ x240 : Int, (x240 = -1 ∧ y236 < 1717922932 ∨ x240 = 0 ∧ y236 = 1717922932 ∨ x240 = 1 ∧ 1717922932 < y236) → (¬ x240 = 0 → I337 g (-1)) ∧ (x240 = 0 → I337 g 7)) ∧ (x237 = 0 → I337 g 6))) ∧ (x214 = 1 → ∀ y246 : Int, y246 = g (386) 7 → ∀ x247 : Int, (x247 = -1 ∧ y246 < 120299592184933 ∨ x247 = 0 ∧ y246 = 120299592184933 ∨ x247 = 1 ∧ 120299592184933 < y246) → (¬ x247 = 0 → ∀ x250 : Int, (x250 = -1 ∧ y246 < 108187867505765 ∨ x250 = 0 ∧ y246 = 108187867505765 ∨ x250 = 1 ∧ 108187867505765 < y246) → (¬ x250 = 0 → ∀ x253 : Int, (x253 = -1 ∧ y246 < 1717922932 ∨ x253 = 0 ∧ y246 = 1717922932 ∨ x253 = 1 ∧ 1717922932 < y246) → (¬ x253 = 0 → I337 g (-1)) ∧ (x253 = 0 → I337 g 7)) ∧ (x250 = 0 → I337 g 6)) ∧ (x247 = 0 → I337 g 5))) ∧ (x214 = 1 → ∀ y259 : Int, y259 = g (386) 7 → ∀ x260 : Int, (x260 = -1 ∧ y259 < 482854658917 ∨ x260 = 0 ∧ y259 = 482854658917 ∨ x260 = 1 ∧ 482854658917 < y259) → (¬ x260 = 0 → ∀ x263 : Int, (x263 = -1 ∧ y259 < 120299592184933 ∨ x263 = 0 ∧ y259 = 120299592184933 ∨ x263 = 1 ∧ 120299592184933 < y259) → (¬ x263 = 0 → ∀ x266 : Int, (x266 = -1 ∧ y259 < 108187867505765 ∨ x266 = 0 ∧ y259 = 108187867505765 ∨ x266 = 1 ∧ 108187867505765 < y259) → (¬ x266 = 0 → ∀ x269 : Int, (x269 = -1 ∧ y259 < 1717922932 ∨ x269 = 0 ∧ y259 = 1717922932 ∨ x269 = 1 ∧ 1717922932 < y259) → (¬ x269 = 0 → I337 g (-1)) ∧ (x269 = 0 → I337 g 7)) ∧ (x266 = 0 → I337 g 6)) ∧ (x263 = 0 → I337 g 5)) ∧ (x260 = 0 → I337 g 4))) ∧ (x214 = 1 → ∀ y275 : Int, y275 = g (386) 7 → ∀ x276 : Int, (x276 = -1 ∧ y275 < 431198598248 ∨ x276 = 0 ∧ y275 = 431198598248 ∨ x276 = 1 ∧ 431198598248 < y275) → (¬ x276 = 0 → ∀ x279 : Int, (x279 = -1 ∧ y275 < 482854658917 ∨ x279 = 0 ∧ y275 = 482854658917 ∨ x279 = 1 ∧ 482854658917 < y275) → (¬ x279 = 0 → ∀ x282 : Int, (x282 = -1 ∧ y275 < 120299592184933 ∨ x282 = 0 ∧ y275 = 120299592184933 ∨ x282 = 1 ∧ 120299592184933 < y275) → (¬ x282 = 0 → ∀ x285 : Int, (x285 = -1 ∧ y275 < 108187867505765 ∨ x285 = 0 ∧ y275 = 108187867505765 ∨ x285 = 1 ∧ 108187867505765 < y275) → (¬ x285 = 0 → ∀ x288 : Int, (x288 = -1 ∧ y275 < 1717922932 ∨ x288 = 0 ∧ y275 = 1717922932 ∨ x288 = 1 ∧ 1717922932 < y275) → (¬ x288 = 0 → I337 g (-1)) ∧ (x288 = 0 → I337 g 7)) ∧ (x285 = 0 → I337 g 6)) ∧ (x282 = 0 → I337 g 5)) ∧ (x279 = 0 → I337 g 4)) ∧ (x276 = 0 → I337 g 3))) ∧ (x214 = 1 → ∀ y294 : Int, y294 = g (386) 7 → ∀ x295 : Int, (x295 = -1 ∧ y294 < 131277443786868 ∨ x295 = 0 ∧ y294 = 131277443786868 ∨ x295 = 1 ∧ 131277443786868 < y294) → (¬ x295 = 0 → ∀ x298 : Int, (x298 = -1 ∧ y294 < 431198598248 ∨ x298 = 0 ∧ y294 = 431198598248 ∨ x298 = 1 ∧ 431198598248 < y294) → (¬ x298 = 0 → ∀ x301 : Int, (x301 = -1 ∧ y294 < 482854658917 ∨ x301 = 0 ∧ y294 = 482854658917 ∨ x301 = 1 ∧ 482854658917 < y294) → (¬ x301 = 0 → ∀ x304 : Int, (x304 = -1 ∧ y294 < 120299592184933 ∨ x304 = 0 ∧ y294 = 120299592184933 ∨ x304 = 1 ∧ 120299592184933 < y294) → (¬ x304 = 0 → ∀ x307 : Int, (x307 = -1 ∧ y294 < 108187867505765 ∨ x307 = 0 ∧ y294 = 108187867505765 ∨ x307 = 1 ∧ 108187867505765 < y294) → (¬ x307 = 0 → ∀ x310 : Int, (x310 = -1 ∧ y294 < 1717922932 ∨ x310 = 0 ∧ y294 = 1717922932 ∨ x310 = 1 ∧ 1717922932 < y294) → (¬ x310 = 0 → I337 g (-1)) ∧ (x310 = 0 → I337 g 7)) ∧ (x307 = 0 → I337 g 6)) ∧ (x304 = 0 → I337 g 5)) ∧ (x301 = 0 → I337 g 4)) ∧ (x298 = 0 → I337 g 3)) ∧ (x295 = 0 → I337 g 2))) ∧ (x214 = 1 → ∀ y316 : Int, y316 = g (386) 7 → ∀ x317 : Int, (x317 = -1 ∧ y316 < 439956431717 ∨ x317 = 0 ∧ y316 = 439956431717 ∨ x317 = 1 ∧ 439956431717 < y316) → (¬ x317 = 0 → ∀ x320 : Int, (x320 = -1 ∧ y316 < 131277443786868 ∨ x320 = 0 ∧ y316 = 131277443786868 ∨ x320 = 1 ∧ 131277443786868 < y316) → (¬ x320 = 0 → ∀ x323 : Int, (x323 = -1 ∧ y316 < 431198598248 ∨ x323 = 0 ∧ y316 = 431198598248 ∨ x323 = 1 ∧ 431198598248 < y316) → (¬ x323 = 0 → ∀ x326 : Int, (x326 = -1 ∧ y316 < 482854658917 ∨ x326 = 0 ∧ y316 = 482854658917 ∨ x326 = 1 ∧ 482854658917 < y316) → (¬ x326 = 0 → ∀ x329 : Int, (x329 = -1 ∧ y316 < 120299592184933 ∨ x329 = 0 ∧ y316 = 120299592184933 ∨ x329 = 1 ∧ 120299592184933 < y316) → (¬ x329 = 0 → ∀ x332 : Int, (x332 = -1 ∧ y316 < 108187867505765 ∨ x332 = 0 ∧ y316 = 108187867505765 ∨ x332 = 1 ∧ 108187867505765 < y316) → (¬ x332 = 0 → ∀ x335 : Int, (x335 = -1 ∧ y316 < 1717922932 ∨ x335 = 0 ∧ y316 = 1717922932 ∨ x335 = 1 ∧ 1717922932 < y316) → (¬ x335 = 0 → I337 g (-1)) ∧ (x335 = 0 → I337 g 7)) ∧ (x332 = 0 → I337 g 6)) ∧ (x329 = 0 → I337 g 5)) ∧ (x326 = 0 → I337 g 4)) ∧ (x323 = 0 → I337 g 3)) ∧ (x320 = 0 → I337 g 2)) ∧ (x317 = 0 → I337 g 1))) ∧ (x214 = 2 → I337 g 0)) ∧
    (∀ (g : zF) (v337_3 : Int), zFr [(407, 415, 1000), (386, 387, 3), (386, 387, 34), (386, 387, 4), (386, 387, 41), (386, 387, 42), (386, 387, 44), (386, 387, 5), (386, 387, 6), (386, 387, 7), (386, 387, 8), (386, 387, 9)] s0 g → (-1) ≤ v337_3 → v337_3 ≤ 7 → I337 g v337_3 → (¬ v337_3 = (-1) → ∀ x339 : Int, x339 = g (386) 8 → 0 ≤ x339 → x339 ≤ 5 → (0 < x339 → Q 1 g) ∧ (x339 ≤ 0 → ∀ x344 : Int, x344 = g (386) 6 → ∀ g353 : zF, zFr [(407, 409, 1000), (386, 387, 34)] g g353 → ∃ P357 : zF → Prop, p_2310 g353 P357 ∧ ∀ g360 : zF, zFr [(386, 387, 3), (386, 387, 4), (386, 387, 5), (386, 387, 6), (386, 387, 7), (386, 387, 8), (386, 387, 9)] g353 g360 → P357 g360 → Q 1 g360)) ∧ (v337_3 = (-1) → ∀ x362 : Int, x362 = g (386) 4 → 0 ≤ x362 → x362 ≤ 1600 → ∀ x366 : Int, x366 = g (386) 8 → 0 ≤ x366 → x366 ≤ 5 → (0 < x366 → Q 1 g) ∧ (x366 ≤ 0 → ∀ g375 : zF, g375 = zup g (386) 8 1 → ∀ g380 : zF, g380 = zup g375 (386) 9 x362 → Q 1 g380)))
set_option maxRecDepth 100000 in
theorem cj_2330 {s0 : zF} {Q1 Q2 : Int → zF → Prop} (h1 : b_2330 s0 Q1) (h2 : p_2330 s0 Q2) : b_2330 s0 (fun v g => Q1 v g ∧ Q2 v g) := by
  obtain ⟨I34, I60, I87, I121, I137, I157, I175, I197, I223, I337, h1E, h1_0, h1_1, h1_2, h1_3, h1_4, h1_5, h1_6, h1_7, h1_8, h1_9⟩ := h1
  obtain ⟨J34, J60, J87, J121, J137, J157, J175, J197, J223, J337, h2E, h2_0, h2_1, h2_2, h2_3, h2_4, h2_5, h2_6, h2_7, h2_8, h2_9⟩ := h2
  refine ⟨fun n g y0 y1 => I34 n g y0 y1 ∧ J34 g y0 y1, fun n g y0 y1 => I60 n g y0 y1 ∧ J60 g y0 y1, fun n g y0 y1 => I87 n g y0 y1 ∧ J87 g y0 y1, fun n g  => I121 n g  ∧ J121 g , fun n g  => I137 n g  ∧ J137 g , fun n g  => I157 n g  ∧ J157 g , fun n g y0 => I175 n g y0 ∧ J175 g y0, fun n g y0 => I197 n g y0 ∧ J197 g y0, fun n g  => I223 n g  ∧ J223 g , fun n g y0 => I337 n g y0 ∧ J337 g y0, ?_, ?_, ?_, ?_, ?_, ?_, ?_, ?_, ?_, ?_, ?_⟩
  · have h1 := h1E
    have h2 := h2E
    clear h1E h2E h1_0 h2_0 h1_1 h2_1 h1_2 h2_2 h1_3 h2_3 h1_4 h2_4 h1_5 h2_5 h1_6 h2_6 h1_7 h2_7 h1_8 h2_8 h1_9 h2_9
    intro x382 a2_0 a2_1 a2_2 x386 a2_3
    replace h1 := h1 x382 a2_0 a2_1 a2_2 x386 a2_3
    replace h2 := h2 x382 a2_0 a2_1 a2_2 x386 a2_3
    refine ⟨h1.1, ?_⟩
    replace h2 := h2 h1.1
    replace h1 := h1.2
    intro x392 a2_0 a2_1 a2_2
    replace h1 := h1 x392 a2_0 a2_1 a2_2
    replace h2 := h2 x392 a2_0 a2_1 a2_2
    refine ⟨fun z => ?_, fun z => ?_⟩
    · replace h1 := h1.1 z
      replace h2 := h2.1 z
      refine ⟨fun z => ?_, fun z => ?_⟩
      · replace h1 := h1.1 z
        replace h2 := h2.1 z
        obtain ⟨m, hi⟩ := h1
        exact ⟨m, hi, h2⟩
      · replace h1 := h1.2 z
        replace h2 := h2.2 z
        intro x398 a4_0 a4_1 a4_2
        replace h1 := h1 x398 a4_0 a4_1 a4_2
        replace h2 := h2 x398 a4_0 a4_1 a4_2
        refine ⟨fun z => ?_, fun z => ?_⟩
        · replace h1 := h1.1 z
          replace h2 := h2.1 z
          obtain ⟨m, hi⟩ := h1
          exact ⟨m, hi, h2⟩
        · replace h1 := h1.2 z
          replace h2 := h2.2 z
          obtain ⟨m, hi⟩ := h1
          exact ⟨m, hi, h2⟩
    · replace h1 := h1.2 z
      replace h2 := h2.2 z
      intro x403 a3_0 a3_1 a3_2
      replace h1 := h1 x403 a3_0 a3_1 a3_2
      replace h2 := h2 x403 a3_0 a3_1 a3_2
      refine ⟨fun z => ?_, fun z => ?_⟩
      · replace h1 := h1.1 z
        replace h2 := h2.1 z
        obtain ⟨m, hi⟩ := h1
        exact ⟨m, hi, h2⟩
      · replace h1 := h1.2 z
        replace h2 := h2.2 z
        obtain ⟨m, hi⟩ := h1
        exact ⟨m, hi, h2⟩
  · intro n g v34_1 v34_2 e0 e1 e2 e3 e4 hI
    have h1 := h1_0 n g v34_1 v34_2 e0 e1 e2 e3 e4 hI.1
    have h2 := h2_0 g v34_1 v34_2 e0 e1 e2 e3 e4 hI.2
    clear h1E h2E hI h1_0 h2_0 h1_1 h2_1 h1_2 h2_2 h1_3 h2_3 h1_4 h2_4 h1_5 h2_5 h1_6 h2_6 h1_7 h2_7 h1_8 h2_8 h1_9 h2_9
    refine ⟨fun z => ?_, fun z => ?_⟩
    · replace h1 := h1.1 z
      replace h2 := h2.1 z
      intro x2 a3_0 a3_1 a3_2
      replace h1 := h1 x2 a3_0 a3_1 a3_2
      replace h2 := h2 x2 a3_0 a3_1 a3_2
      refine ⟨fun z => ?_, fun z => ?_⟩
      · replace h1 := h1.1 z
        replace h2 := h2.1 z
        obtain ⟨m, hm, hi⟩ := h1
        exact ⟨m, hm, hi, h2⟩
      · replace h1 := h1.2 z
        replace h2 := h2.2 z
        intro y10 a4_0 x11 a4_1
        replace h1 := h1 y10 a4_0 x11 a4_1
        replace h2 := h2 y10 a4_0 x11 a4_1
        refine ⟨fun z => ?_, fun z => ?_⟩
        · replace h1 := h1.1 z
          replace h2 := h2.1 z
          obtain ⟨m, hm, hi⟩ := h1
          exact ⟨m, hm, hi, h2⟩
        · replace h1 := h1.2 z
          replace h2 := h2.2 z
          obtain ⟨P1, c1, h1⟩ := h1
          refine ⟨P1, c1, ?_⟩
          intro g19 a5_0 a5_1
          replace h1 := h1 g19 a5_0 a5_1
          replace h2 := h2 g19 a5_0
          obtain ⟨P1, c1, h1⟩ := h1
          obtain ⟨P2, c2, h2⟩ := h2
          refine ⟨fun g => P1 g ∧ P2 g, cj_2310 c1 c2, ?_⟩
          intro g26 a5_0 a5_1
          replace h1 := h1 g26 a5_0 a5_1.1
          replace h2 := h2 g26 a5_0 a5_1.2
          exact ⟨h1, h2⟩
    · replace h1 := h1.2 z
      replace h2 := h2.2 z
      obtain ⟨m, hm, hi⟩ := h1
      exact ⟨m, hm, hi, h2⟩
  · intro n g v60_1 v60_2 e0 e1 e2 e3 e4 hI
    have h1 := h1_1 n g v60_1 v60_2 e0 e1 e2 e3 e4 hI.1
    have h2 := h2_1 g v60_1 v60_2 e0 e1 e2 e3 e4 hI.2
    clear h1E h2E hI h1_0 h2_0 h1_1 h2_1 h1_2 h2_2 h1_3 h2_3 h1_4 h2_4 h1_5 h2_5 h1_6 h2_6 h1_7 h2_7 h1_8 h2_8 h1_9 h2_9
    intro g32 a2_0
    replace h1 := h1 g32 a2_0
    replace h2 := h2 g32 a2_0
    refine ⟨fun z => ?_, fun z => ?_⟩
    · replace h1 := h1.1 z
      replace h2 := h2.1 z
      intro x34 a3_0 a3_1 a3_2
      replace h1 := h1 x34 a3_0 a3_1 a3_2
      replace h2 := h2 x34 a3_0 a3_1 a3_2
      refine ⟨fun z => ?_, fun z => ?_⟩
      · replace h1 := h1.1 z
        replace h2 := h2.1 z
        obtain ⟨m, hm, hi⟩ := h1
        exact ⟨m, hm, hi, h2⟩
      · replace h1 := h1.2 z
        replace h2 := h2.2 z
        intro x39 a4_0
        replace h1 := h1 x39 a4_0
        replace h2 := h2 x39 a4_0
        refine ⟨fun z => ?_, fun z => ?_⟩
        · replace h1 := h1.1 z
          replace h2 := h2.1 z
          obtain ⟨m, hm, hi⟩ := h1
          exact ⟨m, hm, hi, h2⟩
        · replace h1 := h1.2 z
          replace h2 := h2.2 z
          obtain ⟨P1, c1, h1⟩ := h1
          obtain ⟨P2, c2, h2⟩ := h2
          refine ⟨fun g => P1 g ∧ P2 g, cj_2334 c1 c2, ?_⟩
          intro g49 a5_0 a5_1
          replace h1 := h1 g49 a5_0 a5_1.1
          replace h2 := h2 g49 a5_0 a5_1.2
          exact ⟨h1, h2⟩
    · replace h1 := h1.2 z
      replace h2 := h2.2 z
      obtain ⟨m, hm, hi⟩ := h1
      exact ⟨m, hm, hi, h2⟩
  · intro n g v87_1 v87_2 e0 e1 e2 e3 e4 hI
    have h1 := h1_2 n g v87_1 v87_2 e0 e1 e2 e3 e4 hI.1
    have h2 := h2_2 g v87_1 v87_2 e0 e1 e2 e3 e4 hI.2
    clear h1E h2E hI h1_0 h2_0 h1_1 h2_1 h1_2 h2_2 h1_3 h2_3 h1_4 h2_4 h1_5 h2_5 h1_6 h2_6 h1_7 h2_7 h1_8 h2_8 h1_9 h2_9
    refine ⟨fun z => ?_, fun z => ?_⟩
    · replace h1 := h1.1 z
      replace h2 := h2.1 z
      intro x52 a3_0 a3_1 a3_2
      replace h1 := h1 x52 a3_0 a3_1 a3_2
      replace h2 := h2 x52 a3_0 a3_1 a3_2
      refine ⟨fun z => ?_, fun z => ?_⟩
      · replace h1 := h1.1 z
        replace h2 := h2.1 z
        obtain ⟨m, hm, hi⟩ := h1
        exact ⟨m, hm, hi, h2⟩
      · replace h1 := h1.2 z
        replace h2 := h2.2 z
        intro y60 a4_0 x61 a4_1
        replace h1 := h1 y60 a4_0 x61 a4_1
        replace h2 := h2 y60 a4_0 x61 a4_1
        refine ⟨fun z => ?_, fun z => ?_⟩
        · replace h1 := h1.1 z
          replace h2 := h2.1 z
          obtain ⟨m, hm, hi⟩ := h1
          exact ⟨m, hm, hi, h2⟩
        · replace h1 := h1.2 z
          replace h2 := h2.2 z
          obtain ⟨P1, c1, h1⟩ := h1
          refine ⟨P1, c1, ?_⟩
          intro g69 a5_0 a5_1 g75 a5_2
          replace h1 := h1 g69 a5_0 a5_1 g75 a5_2
          replace h2 := h2 g69 a5_0 g75 a5_2
          obtain ⟨P1, c1, h1⟩ := h1
          obtain ⟨P2, c2, h2⟩ := h2
          refine ⟨fun g => P1 g ∧ P2 g, cj_2310 c1 c2, ?_⟩
          intro g81 a5_0 a5_1
          replace h1 := h1 g81 a5_0 a5_1.1
          replace h2 := h2 g81 a5_0 a5_1.2
          exact ⟨h1, h2⟩
    · replace h1 := h1.2 z
      replace h2 := h2.2 z
      obtain ⟨m, hm, hi⟩ := h1
      exact ⟨m, hm, hi, h2⟩
  · intro n g  e0 hI
    have h1 := h1_3 n g  e0 hI.1
    have h2 := h2_3 g  e0 hI.2
    clear h1E h2E hI h1_0 h2_0 h1_1 h2_1 h1_2 h2_2 h1_3 h2_3 h1_4 h2_4 h1_5 h2_5 h1_6 h2_6 h1_7 h2_7 h1_8 h2_8 h1_9 h2_9
    intro x83 a2_0 a2_1 a2_2
    replace h1 := h1 x83 a2_0 a2_1 a2_2
    replace h2 := h2 x83 a2_0 a2_1 a2_2
    refine ⟨fun z => ?_, fun z => ?_⟩
    · replace h1 := h1.1 z
      replace h2 := h2.1 z
      obtain ⟨m, hm, hi⟩ := h1
      exact ⟨m, hm, hi, h2⟩
    · replace h1 := h1.2 z
      replace h2 := h2.2 z
      intro x88 a3_0
      replace h1 := h1 x88 a3_0
      replace h2 := h2 x88 a3_0
      refine ⟨fun z => ?_, fun z => ?_⟩
      · replace h1 := h1.1 z
        replace h2 := h2.1 z
        obtain ⟨m, hm, hi⟩ := h1
        exact ⟨m, hm, hi, h2⟩
      · replace h1 := h1.2 z
        replace h2 := h2.2 z
        obtain ⟨P1, c1, h1⟩ := h1
        obtain ⟨P2, c2, h2⟩ := h2
        refine ⟨fun g => P1 g ∧ P2 g, cj_2334 c1 c2, ?_⟩
        intro g98 a4_0 a4_1
        replace h1 := h1 g98 a4_0 a4_1.1
        replace h2 := h2 g98 a4_0 a4_1.2
        exact ⟨h1, h2⟩
  · intro n g  e0 hI
    have h1 := h1_4 n g  e0 hI.1
    have h2 := h2_4 g  e0 hI.2
    clear h1E h2E hI h1_0 h2_0 h1_1 h2_1 h1_2 h2_2 h1_3 h2_3 h1_4 h2_4 h1_5 h2_5 h1_6 h2_6 h1_7 h2_7 h1_8 h2_8 h1_9 h2_9
    intro x100 a2_0 a2_1 a2_2
    replace h1 := h1 x100 a2_0 a2_1 a2_2
    replace h2 := h2 x100 a2_0 a2_1 a2_2
    refine ⟨fun z => ?_, fun z => ?_⟩
    · replace h1 := h1.1 z
      replace h2 := h2.1 z
      refine ⟨fun z => ?_, fun z => ?_⟩
      · replace h1 := h1.1 z
        replace h2 := h2.1 z
        obtain ⟨m, hm, hi⟩ := h1
        exact ⟨m, hm, hi, h2⟩
      · replace h1 := h1.2 z
        replace h2 := h2.2 z
        intro y109 a4_0 x110 a4_1
        replace h1 := h1 y109 a4_0 x110 a4_1
        replace h2 := h2 y109 a4_0 x110 a4_1
        refine ⟨fun z => ?_, fun z => ?_⟩
        · replace h1 := h1.1 z
          replace h2 := h2.1 z
          obtain ⟨m, hm, hi⟩ := h1
          exact ⟨m, hm, hi, h2⟩
        · replace h1 := h1.2 z
          replace h2 := h2.2 z
          obtain ⟨m, hm, hi⟩ := h1
          exact ⟨m, hm, hi, h2⟩
    · replace h1 := h1.2 z
      replace h2 := h2.2 z
      intro y116 a3_0 x117 a3_1
      replace h1 := h1 y116 a3_0 x117 a3_1
      replace h2 := h2 y116 a3_0 x117 a3_1
      refine ⟨fun z => ?_, fun z => ?_⟩
      · replace h1 := h1.1 z
        replace h2 := h2.1 z
        intro x120 a4_0
        replace h1 := h1 x120 a4_0
        replace h2 := h2 x120 a4_0
        refine ⟨fun z => ?_, fun z => ?_⟩
        · replace h1 := h1.1 z
          replace h2 := h2.1 z
          obtain ⟨m, hm, hi⟩ := h1
          exact ⟨m, hm, hi, h2⟩
        · replace h1 := h1.2 z
          replace h2 := h2.2 z
          obtain ⟨m, hm, hi⟩ := h1
          exact ⟨m, hm, hi, h2⟩
      · replace h1 := h1.2 z
        replace h2 := h2.2 z
        obtain ⟨m, hm, hi⟩ := h1
        exact ⟨m, hm, hi, h2⟩
  · intro n g  e0 hI
    have h1 := h1_5 n g  e0 hI.1
    have h2 := h2_5 g  e0 hI.2
    clear h1E h2E hI h1_0 h2_0 h1_1 h2_1 h1_2 h2_2 h1_3 h2_3 h1_4 h2_4 h1_5 h2_5 h1_6 h2_6 h1_7 h2_7 h1_8 h2_8 h1_9 h2_9
    intro x123 a2_0 a2_1 a2_2
    replace h1 := h1 x123 a2_0 a2_1 a2_2
    replace h2 := h2 x123 a2_0 a2_1 a2_2
    refine ⟨fun z => ?_, fun z => ?_⟩
    · replace h1 := h1.1 z
      replace h2 := h2.1 z
      obtain ⟨m, hm, hi⟩ := h1
      exact ⟨m, hm, hi, h2⟩
    · replace h1 := h1.2 z
      replace h2 := h2.2 z
      intro y131 a3_0 x132 a3_1
      replace h1 := h1 y131 a3_0 x132 a3_1
      replace h2 := h2 y131 a3_0 x132 a3_1
      refine ⟨fun z => ?_, fun z => ?_⟩
      · replace h1 := h1.1 z
        replace h2 := h2.1 z
        obtain ⟨m, hm, hi⟩ := h1
        exact ⟨m, hm, hi, h2⟩
      · replace h1 := h1.2 z
        replace h2 := h2.2 z
        obtain ⟨m, hm, hi⟩ := h1
        exact ⟨m, hm, hi, h2⟩
  · intro n g v175_3 e0 e1 e2 hI
    have h1 := h1_6 n g v175_3 e0 e1 e2 hI.1
    have h2 := h2_6 g v175_3 e0 e1 e2 hI.2
    clear h1E h2E hI h1_0 h2_0 h1_1 h2_1 h1_2 h2_2 h1_3 h2_3 h1_4 h2_4 h1_5 h2_5 h1_6 h2_6 h1_7 h2_7 h1_8 h2_8 h1_9 h2_9
    obtain ⟨P1, c1, h1⟩ := h1
    obtain ⟨P2, c2, h2⟩ := h2
    refine ⟨fun g => P1 g ∧ P2 g, cj_2310 c1 c2, ?_⟩
    intro g140 a2_0 a2_1 x142 a2_2 a2_3 a2_4
    replace h1 := h1 g140 a2_0 a2_1.1 x142 a2_2 a2_3 a2_4
    replace h2 := h2 g140 a2_0 a2_1.2 x142 a2_2 a2_3 a2_4
    refine ⟨fun z => ?_, fun z => ?_⟩
    · replace h1 := h1.1 z
      replace h2 := h2.1 z
      intro x147 a3_0 a3_1 a3_2 x151 a3_3 a3_4 a3_5
      replace h1 := h1 x147 a3_0 a3_1 a3_2 x151 a3_3 a3_4 a3_5
      replace h2 := h2 x147 a3_0 a3_1 a3_2 x151 a3_3 a3_4 a3_5
      refine ⟨fun z => ?_, fun z => ?_⟩
      · replace h1 := h1.1 z
        replace h2 := h2.1 z
        obtain ⟨m, hm, hi⟩ := h1
        exact ⟨m, hm, hi, h2⟩
      · replace h1 := h1.2 z
        replace h2 := h2.2 z
        intro g160 a4_0 g165 a4_1
        replace h1 := h1 g160 a4_0 g165 a4_1
        replace h2 := h2 g160 a4_0 g165 a4_1
        obtain ⟨m, hm, hi⟩ := h1
        exact ⟨m, hm, hi, h2⟩
    · replace h1 := h1.2 z
      replace h2 := h2.2 z
      intro x166 a3_0
      replace h1 := h1 x166 a3_0
      replace h2 := h2 x166 a3_0
      refine ⟨fun z => ?_, fun z => ?_⟩
      · replace h1 := h1.1 z
        replace h2 := h2.1 z
        intro x171 a4_0 a4_1 a4_2 x175 a4_3 a4_4 a4_5
        replace h1 := h1 x171 a4_0 a4_1 a4_2 x175 a4_3 a4_4 a4_5
        replace h2 := h2 x171 a4_0 a4_1 a4_2 x175 a4_3 a4_4 a4_5
        refine ⟨fun z => ?_, fun z => ?_⟩
        · replace h1 := h1.1 z
          replace h2 := h2.1 z
          obtain ⟨m, hm, hi⟩ := h1
          exact ⟨m, hm, hi, h2⟩
        · replace h1 := h1.2 z
          replace h2 := h2.2 z
          intro g184 a5_0 g189 a5_1
          replace h1 := h1 g184 a5_0 g189 a5_1
          replace h2 := h2 g184 a5_0 g189 a5_1
          obtain ⟨m, hm, hi⟩ := h1
          exact ⟨m, hm, hi, h2⟩
      · replace h1 := h1.2 z
        replace h2 := h2.2 z
        obtain ⟨m, hm, hi⟩ := h1
        exact ⟨m, hm, hi, h2⟩
  · intro n g v197_3 e0 e1 e2 hI
    have h1 := h1_7 n g v197_3 e0 e1 e2 hI.1
    have h2 := h2_7 g v197_3 e0 e1 e2 hI.2
    clear h1E h2E hI h1_0 h2_0 h1_1 h2_1 h1_2 h2_2 h1_3 h2_3 h1_4 h2_4 h1_5 h2_5 h1_6 h2_6 h1_7 h2_7 h1_8 h2_8 h1_9 h2_9
    obtain ⟨P1, c1, h1⟩ := h1
    obtain ⟨P2, c2, h2⟩ := h2
    refine ⟨fun g => P1 g ∧ P2 g, cj_2334 c1 c2, ?_⟩
    intro g195 a2_0 a2_1 x197 a2_2 a2_3 a2_4
    replace h1 := h1 g195 a2_0 a2_1.1 x197 a2_2 a2_3 a2_4
    replace h2 := h2 g195 a2_0 a2_1.2 x197 a2_2 a2_3 a2_4
    refine ⟨fun z => ?_, fun z => ?_⟩
    · replace h1 := h1.1 z
      replace h2 := h2.1 z
      exact ⟨h1, h2⟩
    · replace h1 := h1.2 z
      replace h2 := h2.2 z
      intro x202 a3_0 a3_1 a3_2 x206 a3_3
      replace h1 := h1 x202 a3_0 a3_1 a3_2 x206 a3_3
      replace h2 := h2 x202 a3_0 a3_1 a3_2 x206 a3_3
      refine ⟨h1.1, ?_⟩
      replace h2 := h2 h1.1
      replace h1 := h1.2
      intro g213 a3_0
      replace h1 := h1 g213 a3_0
      replace h2 := h2 g213 a3_0
      exact ⟨h1, h2⟩
  · intro n g  e0 hI
    have h1 := h1_8 n g  e0 hI.1
    have h2 := h2_8 g  e0 hI.2
    clear h1E h2E hI h1_0 h2_0 h1_1 h2_1 h1_2 h2_2 h1_3 h2_3 h1_4 h2_4 h1_5 h2_5 h1_6 h2_6 h1_7 h2_7 h1_8 h2_8 h1_9 h2_9
    intro x214 a2_0 a2_1 a2_2
    replace h1 := h1 x214 a2_0 a2_1 a2_2
    replace h2 := h2 x214 a2_0 a2_1 a2_2
    refine ⟨fun z => ?_, fun z => ?_⟩
    · replace h1 := h1.1 z
      replace h2 := h2.1 z
      refine ⟨fun z => ?_, fun z => ?_⟩
      · replace h1 := h1.1 z
        replace h2 := h2.1 z
        refine ⟨fun z => ?_, fun z => ?_⟩
        · replace h1 := h1.1 z
          replace h2 := h2.1 z
          refine ⟨fun z => ?_, fun z => ?_⟩
          · replace h1 := h1.1 z
            replace h2 := h2.1 z
            refine ⟨fun z => ?_, fun z => ?_⟩
            · replace h1 := h1.1 z
              replace h2 := h2.1 z
              refine ⟨fun z => ?_, fun z => ?_⟩
              · replace h1 := h1.1 z
                replace h2 := h2.1 z
                refine ⟨fun z => ?_, fun z => ?_⟩
                · replace h1 := h1.1 z
                  replace h2 := h2.1 z
                  refine ⟨fun z => ?_, fun z => ?_⟩
                  · replace h1 := h1.1 z
                    replace h2 := h2.1 z
                    obtain ⟨m, hm, hi⟩ := h1
                    exact ⟨m, hm, hi, h2⟩
                  · replace h1 := h1.2 z
                    replace h2 := h2.2 z
                    intro y229 a10_0 x230 a10_1
                    replace h1 := h1 y229 a10_0 x230 a10_1
                    replace h2 := h2 y229 a10_0 x230 a10_1
                    refine ⟨fun z => ?_, fun z => ?_⟩
                    · replace h1 := h1.1 z
                      replace h2 := h2.1 z
                      obtain ⟨m, hm, hi⟩ := h1
                      exact ⟨m, hm, hi, h2⟩
                    · replace h1 := h1.2 z
                      replace h2 := h2.2 z
                      obtain ⟨m, hm, hi⟩ := h1
                      exact ⟨m, hm, hi, h2⟩
                · replace h1 := h1.2 z
                  replace h2 := h2.2 z
                  intro y236 a9_0 x237 a9_1
                  replace h1 := h1 y236 a9_0 x237 a9_1
                  replace h2 := h2 y236 a9_0 x237 a9_1
                  refine ⟨fun z => ?_, fun z => ?_⟩
                  · replace h1 := h1.1 z
                    replace h2 := h2.1 z
                    intro x240 a10_0
                    replace h1 := h1 x240 a10_0
                    replace h2 := h2 x240 a10_0
                    refine ⟨fun z => ?_, fun z => ?_⟩
                    · replace h1 := h1.1 z
                      replace h2 := h2.1 z
                      obtain ⟨m, hm, hi⟩ := h1
                      exact ⟨m, hm, hi, h2⟩
                    · replace h1 := h1.2 z
                      replace h2 := h2.2 z
                      obtain ⟨m, hm, hi⟩ := h1
                      exact ⟨m, hm, hi, h2⟩
                  · replace h1 := h1.2 z
                    replace h2 := h2.2 z
                    obtain ⟨m, hm, hi⟩ := h1
                    exact ⟨m, hm, hi, h2⟩
              · replace h1 := h1.2 z
                replace h2 := h2.2 z
                intro y246 a8_0 x247 a8_1
                replace h1 := h1 y246 a8_0 x247 a8_1
                replace h2 := h2 y246 a8_0 x247 a8_1
                refine ⟨fun z => ?_, fun z => ?_⟩
                · replace h1 := h1.1 z
                  replace h2 := h2.1 z
                  intro x250 a9_0
                  replace h1 := h1 x250 a9_0
                  replace h2 := h2 x250 a9_0
                  refine ⟨fun z => ?_, fun z => ?_⟩
                  · replace h1 := h1.1 z
                    replace h2 := h2.1 z
                    intro x253 a10_0
                    replace h1 := h1 x253 a10_0
                    replace h2 := h2 x253 a10_0
                    refine ⟨fun z => ?_, fun z => ?_⟩
                    · replace h1 := h1.1 z
                      replace h2 := h2.1 z
                      obtain ⟨m, hm, hi⟩ := h1
                      exact ⟨m, hm, hi, h2⟩
                    · replace h1 := h1.2 z
                      replace h2 := h2.2 z
                      obtain ⟨m, hm, hi⟩ := h1
                      exact ⟨m, hm, hi, h2⟩
                  · replace h1 := h1.2 z
                    replace h2 := h2.2 z
                    obtain ⟨m, hm, hi⟩ := h1
                    exact ⟨m, hm, hi, h2⟩
                · replace h1 := h1.2 z
                  replace h2 := h2.2 z
                  obtain ⟨m, hm, hi⟩ := h1
                  exact ⟨m, hm, hi, h2⟩
            · replace h1 := h1.2 z
              replace h2 := h2.2 z
              intro y259 a7_0 x260 a7_1
              replace h1 := h1 y259 a7_0 x260 a7_1
              replace h2 := h2 y259 a7_0 x260 a7_1
              refine ⟨fun z => ?_, fun z => ?_⟩
              · replace h1 := h1.1 z
                replace h2 := h2.1 z
                intro x263 a8_0
                replace h1 := h1 x263 a8_0
                replace h2 := h2 x263 a8_0
                refine ⟨fun z => ?_, fun z => ?_⟩
                · replace h1 := h1.1 z
                  replace h2 := h2.1 z
                  intro x266 a9_0
                  replace h1 := h1 x266 a9_0
                  replace h2 := h2 x266 a9_0
                  refine ⟨fun z => ?_, fun z => ?_⟩
                  · replace h1 := h1.1 z
                    replace h2 := h2.1 z
                    intro x269 a10_0
                    replace h1 := h1 x269 a10_0
                    replace h2 := h2 x269 a10_0
                    refine ⟨fun z => ?_, fun z => ?_⟩
                    · replace h1 := h1.1 z
                      replace h2 := h2.1 z
                      obtain ⟨m, hm, hi⟩ := h1
                      exact ⟨m, hm, hi, h2⟩
                    · replace h1 := h1.2 z
                      replace h2 := h2.2 z
                      obtain ⟨m, hm, hi⟩ := h1
                      exact ⟨m, hm, hi, h2⟩
                  · replace h1 := h1.2 z
                    replace h2 := h2.2 z
                    obtain ⟨m, hm, hi⟩ := h1
                    exact ⟨m, hm, hi, h2⟩
                · replace h1 := h1.2 z
                  replace h2 := h2.2 z
                  obtain ⟨m, hm, hi⟩ := h1
                  exact ⟨m, hm, hi, h2⟩
              · replace h1 := h1.2 z
                replace h2 := h2.2 z
                obtain ⟨m, hm, hi⟩ := h1
                exact ⟨m, hm, hi, h2⟩
          · replace h1 := h1.2 z
            replace h2 := h2.2 z
            intro y275 a6_0 x276 a6_1
            replace h1 := h1 y275 a6_0 x276 a6_1
            replace h2 := h2 y275 a6_0 x276 a6_1
            refine ⟨fun z => ?_, fun z => ?_⟩
            · replace h1 := h1.1 z
              replace h2 := h2.1 z
              intro x279 a7_0
              replace h1 := h1 x279 a7_0
              replace h2 := h2 x279 a7_0
              refine ⟨fun z => ?_, fun z => ?_⟩
              · replace h1 := h1.1 z
                replace h2 := h2.1 z
                intro x282 a8_0
                replace h1 := h1 x282 a8_0
                replace h2 := h2 x282 a8_0
                refine ⟨fun z => ?_, fun z => ?_⟩
                · replace h1 := h1.1 z
                  replace h2 := h2.1 z
                  intro x285 a9_0
                  replace h1 := h1 x285 a9_0
                  replace h2 := h2 x285 a9_0
                  refine ⟨fun z => ?_, fun z => ?_⟩
                  · replace h1 := h1.1 z
                    replace h2 := h2.1 z
                    intro x288 a10_0
                    replace h1 := h1 x288 a10_0
                    replace h2 := h2 x288 a10_0
                    refine ⟨fun z => ?_, fun z => ?_⟩
                    · replace h1 := h1.1 z
                      replace h2 := h2.1 z
                      obtain ⟨m, hm, hi⟩ := h1
                      exact ⟨m, hm, hi, h2⟩
                    · replace h1 := h1.2 z
                      replace h2 := h2.2 z
                      obtain ⟨m, hm, hi⟩ := h1
                      exact ⟨m, hm, hi, h2⟩
                  · replace h1 := h1.2 z
                    replace h2 := h2.2 z
                    obtain ⟨m, hm, hi⟩ := h1
                    exact ⟨m, hm, hi, h2⟩
                · replace h1 := h1.2 z
                  replace h2 := h2.2 z
                  obtain ⟨m, hm, hi⟩ := h1
                  exact ⟨m, hm, hi, h2⟩
              · replace h1 := h1.2 z
                replace h2 := h2.2 z
                obtain ⟨m, hm, hi⟩ := h1
                exact ⟨m, hm, hi, h2⟩
            · replace h1 := h1.2 z
              replace h2 := h2.2 z
              obtain ⟨m, hm, hi⟩ := h1
              exact ⟨m, hm, hi, h2⟩
        · replace h1 := h1.2 z
          replace h2 := h2.2 z
          intro y294 a5_0 x295 a5_1
          replace h1 := h1 y294 a5_0 x295 a5_1
          replace h2 := h2 y294 a5_0 x295 a5_1
          refine ⟨fun z => ?_, fun z => ?_⟩
          · replace h1 := h1.1 z
            replace h2 := h2.1 z
            intro x298 a6_0
            replace h1 := h1 x298 a6_0
            replace h2 := h2 x298 a6_0
            refine ⟨fun z => ?_, fun z => ?_⟩
            · replace h1 := h1.1 z
              replace h2 := h2.1 z
              intro x301 a7_0
              replace h1 := h1 x301 a7_0
              replace h2 := h2 x301 a7_0
              refine ⟨fun z => ?_, fun z => ?_⟩
              · replace h1 := h1.1 z
                replace h2 := h2.1 z
                intro x304 a8_0
                replace h1 := h1 x304 a8_0
                replace h2 := h2 x304 a8_0
                refine ⟨fun z => ?_, fun z => ?_⟩
                · replace h1 := h1.1 z
                  replace h2 := h2.1 z
                  intro x307 a9_0
                  replace h1 := h1 x307 a9_0
                  replace h2 := h2 x307 a9_0
                  refine ⟨fun z => ?_, fun z => ?_⟩
                  · replace h1 := h1.1 z
                    replace h2 := h2.1 z
                    intro x310 a10_0
                    replace h1 := h1 x310 a10_0
                    replace h2 := h2 x310 a10_0
                    refine ⟨fun z => ?_, fun z => ?_⟩
                    · replace h1 := h1.1 z
                      replace h2 := h2.1 z
                      obtain ⟨m, hm, hi⟩ := h1
                      exact ⟨m, hm, hi, h2⟩
                    · replace h1 := h1.2 z
                      replace h2 := h2.2 z
                      obtain ⟨m, hm, hi⟩ := h1
                      exact ⟨m, hm, hi, h2⟩
                  · replace h1 := h1.2 z
                    replace h2 := h2.2 z
                    obtain ⟨m, hm, hi⟩ := h1
                    exact ⟨m, hm, hi, h2⟩
                · replace h1 := h1.2 z
                  replace h2 := h2.2 z
                  obtain ⟨m, hm, hi⟩ := h1
                  exact ⟨m, hm, hi, h2⟩
              · replace h1 := h1.2 z
                replace h2 := h2.2 z
                obtain ⟨m, hm, hi⟩ := h1
                exact ⟨m, hm, hi, h2⟩
            · replace h1 := h1.2 z
              replace h2 := h2.2 z
              obtain ⟨m, hm, hi⟩ := h1
              exact ⟨m, hm, hi, h2⟩
          · replace h1 := h1.2 z
            replace h2 := h2.2 z
            obtain ⟨m, hm, hi⟩ := h1
            exact ⟨m, hm, hi, h2⟩
      · replace h1 := h1.2 z
        replace h2 := h2.2 z
        intro y316 a4_0 x317 a4_1
        replace h1 := h1 y316 a4_0 x317 a4_1
        replace h2 := h2 y316 a4_0 x317 a4_1
        refine ⟨fun z => ?_, fun z => ?_⟩
        · replace h1 := h1.1 z
          replace h2 := h2.1 z
          intro x320 a5_0
          replace h1 := h1 x320 a5_0
          replace h2 := h2 x320 a5_0
          refine ⟨fun z => ?_, fun z => ?_⟩
          · replace h1 := h1.1 z
            replace h2 := h2.1 z
            intro x323 a6_0
            replace h1 := h1 x323 a6_0
            replace h2 := h2 x323 a6_0
            refine ⟨fun z => ?_, fun z => ?_⟩
            · replace h1 := h1.1 z
              replace h2 := h2.1 z
              intro x326 a7_0
              replace h1 := h1 x326 a7_0
              replace h2 := h2 x326 a7_0
              refine ⟨fun z => ?_, fun z => ?_⟩
              · replace h1 := h1.1 z
                replace h2 := h2.1 z
                intro x329 a8_0
                replace h1 := h1 x329 a8_0
                replace h2 := h2 x329 a8_0
                refine ⟨fun z => ?_, fun z => ?_⟩
                · replace h1 := h1.1 z
                  replace h2 := h2.1 z
                  intro x332 a9_0
                  replace h1 := h1 x332 a9_0
                  replace h2 := h2 x332 a9_0
                  refine ⟨fun z => ?_, fun z => ?_⟩
                  · replace h1 := h1.1 z
                    replace h2 := h2.1 z
                    intro x335 a10_0
                    replace h1 := h1 x335 a10_0
                    replace h2 := h2 x335 a10_0
                    refine ⟨fun z => ?_, fun z => ?_⟩
                    · replace h1 := h1.1 z
                      replace h2 := h2.1 z
                      obtain ⟨m, hm, hi⟩ := h1
                      exact ⟨m, hm, hi, h2⟩
                    · replace h1 := h1.2 z
                      replace h2 := h2.2 z
                      obtain ⟨m, hm, hi⟩ := h1
                      exact ⟨m, hm, hi, h2⟩
                  · replace h1 := h1.2 z
                    replace h2 := h2.2 z
                    obtain ⟨m, hm, hi⟩ := h1
                    exact ⟨m, hm, hi, h2⟩
                · replace h1 := h1.2 z
                  replace h2 := h2.2 z
                  obtain ⟨m, hm, hi⟩ := h1
                  exact ⟨m, hm, hi, h2⟩
              · replace h1 := h1.2 z
                replace h2 := h2.2 z
                obtain ⟨m, hm, hi⟩ := h1
                exact ⟨m, hm, hi, h2⟩
            · replace h1 := h1.2 z
              replace h2 := h2.2 z
              obtain ⟨m, hm, hi⟩ := h1
              exact ⟨m, hm, hi, h2⟩
          · replace h1 := h1.2 z
            replace h2 := h2.2 z
            obtain ⟨m, hm, hi⟩ := h1
            exact ⟨m, hm, hi, h2⟩
        · replace h1 := h1.2 z
          replace h2 := h2.2 z
          obtain ⟨m, hm, hi⟩ := h1
          exact ⟨m, hm, hi, h2⟩
    · replace h1 := h1.2 z
      replace h2 := h2.2 z
      obtain ⟨m, hm, hi⟩ := h1
      exact ⟨m, hm, hi, h2⟩
  · intro n g v337_3 e0 e1 e2 hI
    have h1 := h1_9 n g v337_3 e0 e1 e2 hI.1
    have h2 := h2_9 g v337_3 e0 e1 e2 hI.2
    clear h1E h2E hI h1_0 h2_0 h1_1 h2_1 h1_2 h2_2 h1_3 h2_3 h1_4 h2_4 h1_5 h2_5 h1_6 h2_6 h1_7 h2_7 h1_8 h2_8 h1_9 h2_9
    refine ⟨fun z => ?_, fun z => ?_⟩
    · replace h1 := h1.1 z
      replace h2 := h2.1 z
      intro x339 a3_0 a3_1 a3_2
      replace h1 := h1 x339 a3_0 a3_1 a3_2
      replace h2 := h2 x339 a3_0 a3_1 a3_2
      refine ⟨fun z => ?_, fun z => ?_⟩
      · replace h1 := h1.1 z
        replace h2 := h2.1 z
        exact ⟨h1, h2⟩
      · replace h1 := h1.2 z
        replace h2 := h2.2 z
        intro x344 a4_0
        replace h1 := h1 x344 a4_0
        replace h2 := h2 x344 a4_0
        obtain ⟨P1, c1, h1⟩ := h1
        refine ⟨P1, c1, ?_⟩
        intro g353 a4_0 a4_1
        replace h1 := h1 g353 a4_0 a4_1
        replace h2 := h2 g353 a4_0
        obtain ⟨P1, c1, h1⟩ := h1
        obtain ⟨P2, c2, h2⟩ := h2
        refine ⟨fun g => P1 g ∧ P2 g, cj_2310 c1 c2, ?_⟩
        intro g360 a4_0 a4_1
        replace h1 := h1 g360 a4_0 a4_1.1
        replace h2 := h2 g360 a4_0 a4_1.2
        exact ⟨h1, h2⟩
    · replace h1 := h1.2 z
      replace h2 := h2.2 z
      intro x362 a3_0 a3_1 a3_2 x366 a3_3 a3_4 a3_5
      replace h1 := h1 x362 a3_0 a3_1 a3_2 x366 a3_3 a3_4 a3_5
      replace h2 := h2 x362 a3_0 a3_1 a3_2 x366 a3_3 a3_4 a3_5
      refine ⟨fun z => ?_, fun z => ?_⟩
      · replace h1 := h1.1 z
        replace h2 := h2.1 z
        exact ⟨h1, h2⟩
      · replace h1 := h1.2 z
        replace h2 := h2.2 z
        intro g375 a4_0 g380 a4_1
        replace h1 := h1 g375 a4_0 g380 a4_1
        replace h2 := h2 g375 a4_0 g380 a4_1
        exact ⟨h1, h2⟩
