/-! an IMAGE of this DORM: each BOY in one PLACE -/
theorem pigeon : ∀ (n : Nat) (f : Nat → Nat), (∀ p, p < n → f p < n) → (∀ p q, q < p → p < n → f q ≠ f p) → ∀ b, b < n → ∃ p, p < n ∧ f p = b := by
  intro n
  induction n with
  | zero => intro f _ _ b hb; omega
  | succ n ih =>
    intro f hf hi b hb
    have hi2 : ∀ p q, p < n + 1 → q < n + 1 → p ≠ q → f p ≠ f q := by
      intro p q hp hq hpq
      by_cases z : p < q
      · exact hi q p z hq
      · exact fun y => hi p q (by omega) hp y.symm
    have hI := ih (fun p => if f p = n then f n else f p) (fun p hp => by
      by_cases z : f p = n
      · rw [if_pos z]
        have h1 := hf n (by omega)
        have h2 := hi2 p n (by omega) (by omega) (by omega)
        omega
      · rw [if_neg z]
        have h1 := hf p (by omega)
        omega) (fun p q hqp hp => by
      by_cases z : f q = n
      · by_cases z2 : f p = n
        · exact absurd (z.trans z2.symm) (hi2 q p (by omega) (by omega) (by omega))
        · rw [if_pos z, if_neg z2]
          exact hi2 n p (by omega) (by omega) (by omega)
      · by_cases z2 : f p = n
        · rw [if_neg z, if_pos z2]
          exact hi2 q n (by omega) (by omega) (by omega)
        · rw [if_neg z, if_neg z2]
          exact hi2 q p (by omega) (by omega) (by omega))
    by_cases hbn : b = n
    · by_cases z : f n = n
      · exact ⟨n, by omega, z.trans hbn.symm⟩
      · have h1 := hf n (by omega)
        obtain ⟨p, hp, hp2⟩ := hI (f n) (by omega)
        by_cases z2 : f p = n
        · exact ⟨p, by omega, z2.trans hbn.symm⟩
        · rw [if_neg z2] at hp2
          exact absurd hp2 (hi2 p n (by omega) (by omega) (by omega))
    · obtain ⟨p, hp, hp2⟩ := hI b (by omega)
      by_cases z2 : f p = n
      · rw [if_pos z2] at hp2
        exact ⟨n, by omega, hp2⟩
      · rw [if_neg z2] at hp2
        exact ⟨p, by omega, hp2⟩
/-- what of a BOY's bytes is needed -/
def IB (s : zF) (k : Nat) : Prop := s 387 k < s 388 (s 386 12).toNat ∧ s 387 (k + 2) ≤ 6 ∧ s 387 (k + 4) ≤ 6
def IMG (s : zF) : Prop := (∀ p : Nat, (p : Int) < s 388 (s 386 12).toNat → IB s (2 + 7 * p)) ∧ ∀ p q : Nat, q < p → (p : Int) < s 388 (s 386 12).toNat → s 387 (2 + 7 * q) ≠ s 387 (2 + 7 * p)
theorem IMG.sur {s : zF} (h : IMG s) (h0 : ∀ k, 0 ≤ s 387 k) : ∀ b : Nat, (b : Int) < s 388 (s 386 12).toNat → ∃ p : Nat, (p : Int) < s 388 (s 386 12).toNat ∧ s 387 (2 + 7 * p) = b := by
  intro b hb
  obtain ⟨p, h1, h2⟩ := pigeon (s 388 (s 386 12).toNat).toNat (fun p => (s 387 (2 + 7 * p)).toNat) (fun p hp => by
    have := (h.1 p (by omega)).1
    have := h0 (2 + 7 * p)
    omega) (fun p q hq hp => by
    have := h.2 p q hq (by omega)
    have := h0 (2 + 7 * p)
    have := h0 (2 + 7 * q)
    omega) b (by omega)
  have := h0 (2 + 7 * p)
  exact ⟨p, by omega, by omega⟩
theorem ZR.image {s g : zF} (h : ZR s) (hs : ∀ b : Nat, (b : Int) < s 388 (s 386 12).toNat → ∃ p : Nat, (p : Int) < s 388 (s 386 12).toNat ∧ g 419 p = b) (e65 : g 386 65 = 0) (e12 : g 386 12 = s 386 12) (e388 : g 388 = s 388) (hw : ∀ b, WFB s b 1600 → WFB g b 1600) : ZR g := by
  obtain ⟨b, h1, h2, h3, h4, h5⟩ := h
  rw [show (s 386 12).toNat = b by omega] at hs
  refine ⟨b, e12.trans h1, h2, hw b h3, ?_, fun k hk => by omega⟩
  rw [e388]
  intro c hc
  obtain ⟨p, p1, p2⟩ := hs c hc
  exact ⟨p, p1, by rw [show 12 * 0 + p = p by omega]; exact p2⟩
