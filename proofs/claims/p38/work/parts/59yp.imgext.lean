/-! an image of one tape is one of the other (p38) -/
theorem SEAL_ext {T T' : Nat → Int} : ∀ n : Nat, (∀ k, k < n → T' k = T k) → SEAL T' n = SEAL T n
  | 0, _ => rfl
  | n + 1, h => by
    show (5 * SEAL T' n + T' n) % 251 = (5 * SEAL T n + T n) % 251
    rw [SEAL_ext n (fun k hk => h k (by omega)), h n (by omega)]
theorem BON_ext {T T' : Nat → Int} {k : Nat} {NB ND : Int} {las mk las' mk' : Nat → Int} (b0 : ∀ k, 0 ≤ T k) (hT : ∀ i, i < 7 → T' (k + i) = T (k + i)) (hl : ∀ d : Nat, (d : Int) < ND → las' d = las d) (hm : ∀ b : Nat, (b : Int) < NB → mk' b = mk b) (hb : T k < NB) (h : BON T k ND las mk) : BON T' k ND las' mk' := by
  obtain ⟨h1, h2, h3, h4, h5, h6, h7, h8⟩ := h
  have e0 : T' k = T k := hT 0 (by decide)
  have e1 := hT 1 (by decide)
  have e2 := hT 2 (by decide)
  have e3 := hT 3 (by decide)
  have e4 := hT 4 (by decide)
  have e5 := hT 5 (by decide)
  have e6 := hT 6 (by decide)
  have n0 := b0 k
  have n2 := b0 (k + 2)
  unfold BON
  rw [e0, e1, e2, e3, e4, e5, e6, hm (T k).toNat (by omega)]
  refine ⟨h1, h2, h3, h4, fun z => ?_, h6, h7, h8⟩
  rw [hl (T (k + 2) - 1).toNat (by omega)]
  exact h5 z
theorem IMAGE_ext {T T' : Nat → Int} {L NB ND : Int} {las mk las' mk' : Nat → Int} (hN : 0 ≤ NB) (b0 : ∀ k, 0 ≤ T k) (hT : ∀ k : Nat, (k : Int) < L → T' k = T k) (hl : ∀ d : Nat, (d : Int) < ND → las' d = las d) (hm : ∀ b : Nat, (b : Int) < NB → mk' b = mk b) (h : IMAGE T L NB ND las mk) : IMAGE T' L NB ND las' mk' := by
  obtain ⟨h1, h2, h3, h4, h5⟩ := h
  have hk : 0 ≤ KNM NB ∧ NB - 1 ≤ KNM NB := by
    unfold KNM
    split <;> omega
  have s1 : SEAL T' (L - 1).toNat = SEAL T (L - 1).toNat := SEAL_ext _ (fun k hk => hT k (by omega))
  unfold IMAGE
  rw [s1, hT (L - 1).toNat (by omega), hT 0 (by omega), hT 1 (by omega)]
  refine ⟨h1, h2, h3, fun p hp => ?_, fun k hk2 => ?_⟩
  · obtain ⟨q1, q2, q3⟩ := h4 p hp
    refine ⟨?_, BON_ext b0 (fun i hi => hT _ (by omega)) hl hm q1 q2, fun q hq => ?_⟩
    · rw [hT _ (by omega)]
      exact q1
    · rw [hT (2 + 7 * q) (by omega), hT (2 + 7 * p) (by omega)]
      exact q3 q hq
  · rw [hT (2 + 7 * NB.toNat + 2 * k) (by omega), hT (2 + 7 * NB.toNat + 2 * k + 1) (by omega)]
    exact h5 k hk2
theorem IMAGE_iff {T T' : Nat → Int} {L NB ND : Int} {las mk las' mk' : Nat → Int} (hN : 0 ≤ NB) (b0 : ∀ k, 0 ≤ T k) (b1 : ∀ k, 0 ≤ T' k) (hT : ∀ k : Nat, (k : Int) < L → T' k = T k) (hl : ∀ d : Nat, (d : Int) < ND → las' d = las d) (hm : ∀ b : Nat, (b : Int) < NB → mk' b = mk b) : IMAGE T' L NB ND las' mk' ↔ IMAGE T L NB ND las mk :=
  ⟨IMAGE_ext hN b1 (fun k hk => (hT k hk).symm) (fun d hd => (hl d hd).symm) (fun b hb => (hm b hb).symm), IMAGE_ext hN b0 hT hl hm⟩
