/-! pure conditions of the reference's reader (wip/safe/vcp.py) -/
set_option maxRecDepth 100000 in
def b_2329 (s0 : zF) (a0 : Int) (Q : zF → Prop) : Prop :=
  ∀ x1 : Int, x1 = s0 (386) 41 → 0 ≤ x1 → x1 ≤ 20 → (x1 ≤ 19) ∧ (0 ≤ a0 ∧ a0 ≤ 5) ∧ ∀ g11 : zF, g11 = zup s0 (409) x1.toNat a0 → ∀ g17 : zF, g17 = zup g11 (410) x1.toNat 0 → ∀ g23 : zF, g23 = zup g17 (411) x1.toNat 1 → ∀ x25 : Int, x25 = g23 (386) 44 → 0 ≤ x25 → x25 ≤ 500 → ∀ g33 : zF, g33 = zup g23 (413) x1.toNat x25 → ∀ x35 : Int, x35 = x1 + 1 → ∀ g41 : zF, g41 = zup g33 (386) 41 x35 → Q g41
set_option maxRecDepth 100000 in
def b_2332 (s0 : zF) (a0 : Int) (Q : zF → Prop) : Prop :=
  ∀ x1 : Int, x1 = s0 (386) 44 → 0 ≤ x1 → x1 ≤ 500 → (x1 ≤ 499) ∧ (0 ≤ a0 ∧ a0 ≤ 22) ∧ ∀ g11 : zF, g11 = zup s0 (414) x1.toNat a0 → ∀ x13 : Int, x13 = x1 + 1 → ∀ g19 : zF, g19 = zup g11 (386) 44 x13 → Q g19
set_option maxRecDepth 100000 in
def b_2335 (s0 : zF) (a0 : Int) (a1 : Int) (Q : zF → Prop) : Prop :=
  ∀ x1 : Int, x1 = s0 (386) 35 → 0 ≤ x1 → x1 ≤ 1 → ∀ x5 : Int, x5 = 1600 * x1 → ∀ x7 : Int, x7 = s0 (386) 34 → 0 ≤ x7 → x7 ≤ 1600 → ∀ x11 : Int, x11 = x5 + x7 → (x11 ≤ 3199) ∧ (0 ≤ a0 ∧ a0 ≤ 22) ∧ ∀ g19 : zF, g19 = zup s0 (407) x11.toNat a0 → ∀ x21 : Int, x21 = 1600 * x1 → ∀ x24 : Int, x24 = x21 + x7 → (x24 ≤ 3199) ∧ ∀ g31 : zF, g31 = zup g19 (408) x24.toNat a1 → ∀ x33 : Int, x33 = x7 + 1 → (x33 ≤ 1600) ∧ ∀ g40 : zF, g40 = zup g31 (386) 34 x33 → Q g40
set_option maxRecDepth 100000 in
def b_2338 (s0 : zF) (a0 : Int) (Q : Int → zF → Prop) : Prop :=
  (¬ a0 = 21 → (¬ a0 = 20 → (¬ a0 = 22 → (¬ a0 = 17 → (¬ a0 = 18 → (¬ a0 = 19 → (¬ a0 = 10 → (¬ a0 = 11 → Q 6 s0) ∧ (a0 = 11 → Q 5 s0)) ∧ (a0 = 10 → Q 5 s0)) ∧ (a0 = 19 → Q 4 s0)) ∧ (a0 = 18 → Q 4 s0)) ∧ (a0 = 17 → Q 4 s0)) ∧ (a0 = 22 → Q 3 s0)) ∧ (a0 = 20 → Q 2 s0)) ∧ (a0 = 21 → Q 1 s0)
set_option maxRecDepth 100000 in
def b_2337 (s0 : zF) (a0 : Int) (Q : zF → Prop) : Prop :=
  ∃ (I0 : Nat → zF → Int → Prop),
    (∃ m : Nat, I0 m s0 a0) ∧
    (∀ (n : Nat) (g : zF) (v0_1 : Int), zFr [(407, 409, 1000), (386, 387, 34), (386, 387, 44)] s0 g → I0 n g v0_1 → ∀ x1 : Int, x1 = g (386) 44 → 0 ≤ x1 → x1 ≤ 500 → ∀ x5 : Int, x5 = g (386) 41 → 0 ≤ x5 → x5 ≤ 20 → ∀ x9 : Int, x9 = x5 - 1 → (0 ≤ x9) ∧ ∀ x15 : Int, x15 = g (413) x9.toNat → 0 ≤ x15 → x15 ≤ 500 → (x15 < x1 → ∀ x17 : Int, x17 = x1 - 1 → ∀ x22 : Int, x22 = g (414) x17.toNat → 0 ≤ x22 → x22 ≤ 22 → ∃ P25 : Int → zF → Prop, b_2338 g x22 P25 ∧ ∀ x28 : Int, 1 ≤ x28 → x28 ≤ 6 → ∀ g31 : zF, zFr [] g g31 → P25 x28 g31 → (x28 < v0_1 → Q g31) ∧ (v0_1 ≤ x28 → ∀ x35 : Int, x35 = x1 - 1 → ∀ g41 : zF, g41 = zup g31 (386) 44 x35 → ∀ x45 : Int, x45 = g41 (414) x35.toNat → 0 ≤ x45 → x45 ≤ 22 → ∃ P48 : zF → Prop, b_2335 g41 x45 0 P48 ∧ ∀ g51 : zF, zFr [(407, 409, 1000), (386, 387, 34)] g41 g51 → P48 g51 → ∃ m : Nat, m < n ∧ I0 m g51 v0_1)) ∧ (x1 ≤ x15 → Q g))
