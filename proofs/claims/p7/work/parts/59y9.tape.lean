/-! what feed lays on the tape, byte by byte -/
def PUTD (t o : Nat) (s : zF) (a : Int) (j : Nat) (g : zF) : Prop := g o 1 = s o 1 + j ∧ (∀ k : Nat, (k : Int) < s o 1 → g t k = s t k) ∧ ∀ i : Nat, i < j → g t ((s o 1).toNat + i) = zxand (zxshr a (24 - 8 * (i : Int))) 255
theorem PUTD_0 {t o : Nat} {s : zF} {a : Int} : PUTD t o s a 0 s := ⟨by omega, fun _ _ => rfl, fun i h => absurd h (by omega)⟩
theorem PUTD_s {t o j : Nat} {s g : zF} {a x y : Int} (h : PUTD t o s a j g) (ht : t ≠ o) (h0 : 0 ≤ s o 1) (hx : x = zxand (zxshr a (24 - 8 * (j : Int))) 255) (hy : y = g o 1 + 1) : PUTD t o s a (j + 1) (zup (zup g t (g o 1).toNat x) o 1 y) := by
  obtain ⟨h1, h2, h3⟩ := h
  refine ⟨?_, fun k hk => ?_, fun i hi => ?_⟩
  · rw [zup_eq]
    omega
  · rw [zup_ne (Or.inl ht), zup_ne (Or.inr (by omega))]
    exact h2 k hk
  · rw [zup_ne (Or.inl ht)]
    by_cases z : i = j
    · have e : (s o 1).toNat + i = (g o 1).toNat := by omega
      rw [e, zup_eq, hx, z]
    · rw [zup_ne (Or.inr (by omega))]
      exact h3 i (by omega)
def FDD (t o : Nat) (s : zF) (b : Nat → Int) (n : Nat) (g : zF) : Prop := g o 1 = s o 1 + 4 * (n : Int) ∧ (∀ k : Nat, (k : Int) < s o 1 → g t k = s t k) ∧ ∀ i : Nat, i < 4 * n → g t ((s o 1).toNat + i) = zxand (zxshr (b (i / 4)) (24 - 8 * ((i % 4 : Nat) : Int))) 255
theorem FDD_0 {t o : Nat} {s : zF} {b : Nat → Int} : FDD t o s b 0 s := ⟨by omega, fun _ _ => rfl, fun i h => absurd h (by omega)⟩
theorem FDD_s {t o n : Nat} {s g g' : zF} {b : Nat → Int} {a : Int} (h : FDD t o s b n g) (h0 : 0 ≤ s o 1) (p : PUTD t o g a 4 g') (ha : a = b n) : FDD t o s b (n + 1) g' := by
  obtain ⟨h1, h2, h3⟩ := h
  obtain ⟨p1, p2, p3⟩ := p
  refine ⟨by omega, fun k hk => ?_, fun i hi => ?_⟩
  · rw [p2 k (by omega)]
    exact h2 k hk
  · by_cases z : i < 4 * n
    · rw [p2 _ (by omega)]
      exact h3 i z
    · have e : (s o 1).toNat + i = (g o 1).toNat + (i - 4 * n) := by omega
      have e1 : i / 4 = n := by omega
      have e2 : i % 4 = i - 4 * n := by omega
      rw [e, p3 (i - 4 * n) (by omega), e1, e2, ha]
/-- the tape is alike on both sides -/
def TPE (s : zF) : Prop := s 0 1 = s 386 1 ∧ 0 ≤ s 0 1 ∧ ∀ k : Nat, (k : Int) < s 0 1 → s 1 k = s 387 k
theorem TPE_feed {s g g' : zF} {b : Nat → Int} (h : TPE s) (hc : FDD 1 0 s b 5 g) (e1 : g 387 = s 387) (e2 : g 386 1 = s 386 1) (hr : FDD 387 386 g b 5 g') (e3 : g' 1 = g 1) (e4 : g' 0 1 = g 0 1) : TPE g' := by
  obtain ⟨t1, t2, t3⟩ := h
  obtain ⟨c1, c2, c3⟩ := hc
  obtain ⟨r1, r2, r3⟩ := hr
  refine ⟨by omega, by omega, fun k hk => ?_⟩
  rw [e3]
  by_cases z : (k : Int) < s 0 1
  · rw [c2 k z, r2 k (by omega), e1]
    exact t3 k z
  · obtain ⟨i, hi⟩ : ∃ i : Nat, k = (s 0 1).toNat + i := ⟨k - (s 0 1).toNat, by omega⟩
    have e : (g 386 1).toNat = (s 0 1).toNat := by omega
    have q := r3 i (by omega)
    rw [e] at q
    rw [hi, c3 i (by omega), q]
