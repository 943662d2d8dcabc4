/-! what the reference's ahead() finds -/
def AB (T : Nat → Int) (L p a : Nat) : Prop := p ≤ a ∧ (a ≤ L ∨ a = p) ∧ ∀ k, p ≤ k → k < a → kof (T k) = 0
def AFt (T : Nat → Int) (a m : Nat) (g : zF) (q : Nat) : Prop := adjT T a ∧ g 386 8 = 1 ∧ g 386 9 = (a : Int) ∨ ¬ adjT T a ∧ (q ≤ a + m ∧ g 386 8 = 0 ∨ a + m < q ∧ g 386 8 = 1 ∧ g 386 9 = ((a + m : Nat) : Int))
def ARun (T : Nat → Int) (L p a : Nat) (r : Int) (g : zF) (q w v : Nat) : Prop := AB T L p a ∧ a < L ∧ a ≤ q ∧ q ≤ L ∧ run r ∧ kof (T a) = r ∧ (∀ k, a ≤ k → k < q → kof (T k) = r) ∧ g 386 4 = (a : Int) ∧ g 386 3 = (if r = 2 then 1 else 2) ∧ (r = 2 → w ≤ a + 6 → g 386 7 = pk8 T a (w - a)) ∧ (r = 4 → v ≤ a + 4 → g 386 6 = nu10 T a (v - a))
def AH (T : Nat → Int) (L p : Nat) (g : zF) : Prop := ∃ a, AB T L p a ∧ g 386 4 = (a : Int) ∧
  (L ≤ a ∧ g 386 3 = 0 ∧ g 386 5 = (a : Int) ∧ g 386 8 = 0 ∨
   a < L ∧ ¬ run (kof (T a)) ∧ kof (T a) ≠ 0 ∧ g 386 3 = 3 ∧ g 386 6 = T a ∧ g 386 5 = (a : Int) + 1 ∧ g 386 8 = 0 ∨
   a < L ∧ ∃ (r : Int) (b : Nat), run r ∧ a < b ∧ b ≤ L ∧ (∀ k, a ≤ k → k < b → kof (T k) = r) ∧ (b < L → kof (T b) ≠ r) ∧ g 386 3 = (if r = 2 then 1 else 2) ∧ g 386 5 = (b : Int) ∧ AFt T a (mxl r) g b ∧ (r = 2 → b ≤ a + 6 → g 386 7 = pk8 T a (b - a)) ∧ (r = 4 → b ≤ a + 4 → g 386 6 = nu10 T a (b - a)))
theorem AB_up {T : Nat → Int} {L p a : Nat} (h : AB T L p a) (hl : a < L) (hk : kof (T a) = 0) : AB T L p (a + 1) := by
  obtain ⟨h1, h2, h3⟩ := h
  refine ⟨by omega, Or.inl (by omega), fun k q1 q2 => ?_⟩
  by_cases z : k = a
  · rw [z]
    exact hk
  · exact h3 k q1 (by omega)
/-- the run and the fault under a store elsewhere -/
theorem AFt_up {T : Nat → Int} {a m q k : Nat} {g : zF} {v : Int} (h : AFt T a m g q) (n8 : k ≠ 8) (n9 : k ≠ 9) : AFt T a m (zup g 386 k v) q := by
  unfold AFt
  rw [zup_ne (Or.inr (Ne.symm n8)), zup_ne (Or.inr (Ne.symm n9))]
  exact h
theorem ARun_up {T : Nat → Int} {L p a q w v k : Nat} {r x : Int} {g : zF} (h : ARun T L p a r g q w v) (n3 : k ≠ 3) (n4 : k ≠ 4) (n6 : k ≠ 6) (n7 : k ≠ 7) : ARun T L p a r (zup g 386 k x) q w v := by
  unfold ARun
  rw [zup_ne (Or.inr (Ne.symm n3)), zup_ne (Or.inr (Ne.symm n4)), zup_ne (Or.inr (Ne.symm n6)), zup_ne (Or.inr (Ne.symm n7))]
  exact h
theorem pk8_s {T : Nat → Int} {a q : Nat} (h : a ≤ q) : pk8 T a (q + 1 - a) = 256 * pk8 T a (q - a) + T q := by
  rw [show q + 1 - a = (q - a) + 1 by omega]
  show 256 * pk8 T a (q - a) + T (a + (q - a)) = _
  rw [show a + (q - a) = q by omega]
theorem nu10_s {T : Nat → Int} {a q : Nat} (h : a ≤ q) : nu10 T a (q + 1 - a) = 10 * nu10 T a (q - a) + (T q - 48) := by
  rw [show q + 1 - a = (q - a) + 1 by omega]
  show 10 * nu10 T a (q - a) + (T (a + (q - a)) - 48) = _
  rw [show a + (q - a) = q by omega]
