/-! the reference stands at the token at which the class stands -/
def ATT (t : zK) (P : Nat → Nat) (i : Nat) (s : zF) : Prop := (t.1 i = 0 ∨ t.1 i = 1 ∨ t.1 i = 2 ∨ t.1 i = 4 ∨ t.1 i = 5) ∧ s 386 8 = 0 ∧ s 386 4 = t.2.2 i ∧ s 386 5 = (P (i + 1) : Int) ∧ (t.1 i = 0 → s 386 3 = 0) ∧ (t.1 i = 2 → s 386 3 = 1 ∧ s 386 7 = c8 (t.2.1 i) ∧ c5 (c8 (t.2.1 i)) = t.2.1 i) ∧ (t.1 i = 4 → s 386 3 = 2 ∧ s 386 6 = t.2.1 i) ∧ (t.1 i = 5 → s 386 3 = 3 ∧ s 386 6 = t.2.1 i) ∧ (t.1 i = 1 → s 386 3 = 3 ∧ sgL.contains (s 386 6) = false ∧ t.2.1 i = t.2.2 i)
/-- loaded, or BAD and told so -/
def PRT (t : zK) (P : Nat → Nat) (i : Nat) (s : zF) : Prop := ATT t P i s ∨ t.1 i = 1 ∧ s 386 8 = 1 ∧ s 386 9 = t.2.1 i
theorem kof_1 {c : Int} (h : kof c = 1) : sgL.contains c = false := by
  unfold kof at h
  split at h
  · omega
  · split at h
    · omega
    · split at h
      · omega
      · split at h
        · omega
        · rename_i z
          cases q : sgL.contains c with
          | false => rfl
          | true => exact absurd q z
theorem run_0 {c : Int} (h : run c) : c ≠ 0 ∧ c ≠ 1 ∧ c ≠ 5 := by
  unfold run at h
  omega
theorem ahead_tok {T : Nat → Int} {L e i : Nat} {t : zK} {P : Nat → Nat} {g : zF} (tk : TokAt T L t.1 t.2.1 t.2.2 i (P i) (P (i + 1))) (h : AH T L (P i) g) : PRT t P i g := by
  obtain ⟨a', b1, b2, b3, b4, b5⟩ := tk
  obtain ⟨a, ⟨c1, c2, c3⟩, c4, c5_⟩ := h
  -- what stands at the token's first byte isn't blank
  have n' : a' < L → kof (T a') ≠ 0 := by
    intro hl
    rcases b5 with ⟨z, -⟩ | ⟨-, z, -⟩ | ⟨-, z, -⟩ | ⟨-, z, -⟩ | ⟨-, r, hr, z1, -, -, z2, -⟩ | ⟨-, r, hr, z1, z2, -⟩
    · omega
    · omega
    · omega
    · exact (run_0 z).1
    · rw [z2 a' (Nat.le_refl _) z1]
      exact (run_0 hr).1
    · rw [z2 a' (Nat.le_refl _) (by omega)]
      exact (run_0 hr).1
  have n : a < L → kof (T a) ≠ 0 := by
    intro hl
    rcases c5_ with ⟨z, -⟩ | ⟨-, -, z, -⟩ | ⟨-, r, b, hr, z1, -, z2, -⟩
    · omega
    · exact z
    · rw [z2 a (Nat.le_refl _) z1]
      exact (run_0 hr).1
  have e : a' = a := by
    rcases Nat.lt_trichotomy a' a with z | z | z
    · exact absurd (c3 a' b1 z) (n' (by omega))
    · exact z
    · exact absurd (b3 a c1 z) (n (by omega))
  subst e
  rcases b5 with ⟨z0, z1, z2, z3⟩ | ⟨z0, z1, z2, z3, z4⟩ | ⟨z0, z1, z2, z3, z4⟩ | ⟨z0, z1, z2, z3, z4⟩ | ⟨y0, r, hr, y1, y2, y3, y4, y5, y6, y7⟩ | ⟨y0, r, hr, y1, y2, y3, y4⟩
  · -- END
    rcases c5_ with ⟨d0, d1, d2, d3⟩ | ⟨d0, -⟩ | ⟨d0, -⟩
    · exact Or.inl ⟨by omega, d3, by omega, by omega, fun _ => d1, fun w => absurd w (by omega), fun w => absurd w (by omega), fun w => absurd w (by omega), fun w => absurd w (by omega)⟩
    · omega
    · omega
  · -- a sign
    rcases c5_ with ⟨d0, -⟩ | ⟨d0, d1, d2, d3, d4, d5, d6⟩ | ⟨d0, r, b, hr, d1, -, d2, -⟩
    · omega
    · exact Or.inl ⟨by omega, d6, by omega, by omega, fun w => absurd w (by omega), fun w => absurd w (by omega), fun w => absurd w (by omega), fun _ => ⟨d3, by omega⟩, fun w => absurd w (by omega)⟩
    · have := d2 a' (Nat.le_refl _) d1
      have := (run_0 hr).2.2
      omega
  · -- a byte that is none
    rcases c5_ with ⟨d0, -⟩ | ⟨d0, d1, d2, d3, d4, d5, d6⟩ | ⟨d0, r, b, hr, d1, -, d2, -⟩
    · omega
    · exact Or.inl ⟨by omega, d6, by omega, by omega, fun w => absurd w (by omega), fun w => absurd w (by omega), fun w => absurd w (by omega), fun w => absurd w (by omega), fun _ => ⟨d3, by rw [d4]; exact kof_1 z1, by omega⟩⟩
    · have := d2 a' (Nat.le_refl _) d1
      have := (run_0 hr).2.1
      omega
  · -- a word behind a number
    rcases c5_ with ⟨d0, -⟩ | ⟨d0, d1, -⟩ | ⟨d0, r, b, hr, d1, d2, d3, d4, d5, d6, d7, d8, d9⟩
    · omega
    · exact absurd z1 d1
    · rcases d7 with ⟨f1, f2, f3⟩ | ⟨f1, -⟩
      · exact Or.inr ⟨z3, f2, by omega⟩
      · exact absurd z2 f1
  · -- a word, a number
    rcases c5_ with ⟨d0, -⟩ | ⟨d0, d1, -⟩ | ⟨d0, r', b, hr', d1, d2, d3, d4, d5, d6, d7, d8, d9⟩
    · omega
    · rw [y4 a' (Nat.le_refl _) y1] at d1
      exact absurd hr d1
    · have er : r' = r := (d3 a' (Nat.le_refl _) d1).symm.trans (y4 a' (Nat.le_refl _) y1)
      subst er
      have eb : b = P (i + 1) := by
        rcases Nat.lt_trichotomy b (P (i + 1)) with z | z | z
        · exact absurd (y4 b (by omega) z) (d4 (by omega))
        · exact z
        · exact absurd (d3 (P (i + 1)) (by omega) z) (y5 (by omega))
      subst eb
      have f8 : g 386 8 = 0 := by
        rcases d7 with ⟨f1, -⟩ | ⟨-, ⟨-, f2⟩ | ⟨f2, -⟩⟩
        · exact absurd f1 y0
        · exact f2
        · omega
      unfold run at hr
      refine Or.inl ⟨by omega, f8, by omega, by omega, fun w => absurd w (by omega), fun w => ?_, fun w => ?_, fun w => absurd w (by omega), fun w => absurd w (by omega)⟩
      · have r2 : r' = 2 := by omega
        subst r2
        have hl : ∀ k, a' ≤ k → k < a' + (P (i + 1) - a') → isL (T k) := fun k k1 k2 => kof_2 (y4 k k1 (by omega))
        have hm : P (i + 1) - a' ≤ 6 := by
          rw [mxl_2] at y3
          omega
        have hv : t.2.1 i = pk5 T a' (P (i + 1) - a') := y7
        rw [if_pos rfl] at d5
        have hw := c8_pk hm hl
        rw [hv, hw]
        exact ⟨d5, d8 rfl (by omega), c5_pk hm hl⟩
      · have r4 : r' = 4 := by omega
        subst r4
        rw [if_neg (by decide)] at d5
        refine ⟨d5, (d9 rfl (by rw [mxl_4] at y3; exact y3)).trans ?_⟩
        exact (show t.2.1 i = nu10 T a' (P (i + 1) - a') from y7).symm
  · -- too long
    rcases c5_ with ⟨d0, -⟩ | ⟨d0, d1, -⟩ | ⟨d0, r', b, hr', d1, d2, d3, d4, d5, d6, d7, d8, d9⟩
    · omega
    · rw [y2 a' (Nat.le_refl _) (by omega)] at d1
      exact absurd hr d1
    · have er : r' = r := (d3 a' (Nat.le_refl _) d1).symm.trans (y2 a' (Nat.le_refl _) (by omega))
      subst er
      have eb : a' + mxl r' < b := by
        by_cases z : b ≤ a' + mxl r'
        · exact absurd (y2 b (by omega) z) (d4 (by omega))
        · omega
      rcases d7 with ⟨f1, -⟩ | ⟨-, ⟨f2, -⟩ | ⟨-, f2, f3⟩⟩
      · exact absurd f1 y0
      · omega
      · exact Or.inr ⟨y3, f2, by omega⟩
