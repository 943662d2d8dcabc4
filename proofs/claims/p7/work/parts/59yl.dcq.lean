/-! what the class's dorm() gives; both sides held together -/
def DCQ (s0 : zF) (v : Int) (g : zF) : Prop := ∃ (t : zK) (P : Nat → Nat) (e : Nat), Toks (s0 1) (s0 0 1).toNat t.1 t.2.1 t.2.2 P e ∧ ((∃ n d, prF t 91 ds0 0 = .inl (n, d) ∧ v = (n : Int) ∧ g 2 0 = 0 ∧ g 2 1 = -1 ∧ DIC t g (g 0 3).toNat d) ∨ ∃ f, prF t 91 ds0 0 = .inr f ∧ v = -1 ∧ g 2 0 = f.1 ∧ g 2 1 = f.2 ∧ g 0 3 = s0 0 3 ∧ ∀ a k : Nat, (s0 0 3).toNat ≤ a → a < (s0 0 3).toNat + 21 → g a k = s0 a k)
theorem DIC_fr {t : zK} {s g : zF} {b : Nat} {d : zDS} (h : DIC t s b d) (h0 : g b = s b) (h1 : g (b + 1) = s (b + 1)) (h7 : g (b + 7) = s (b + 7)) (h13 : g (b + 13) = s (b + 13)) : DIC t g b d := by
  unfold DIC
  rw [h0, h1, h7, h13]
  exact h
theorem pkr_ext {T T' : Nat → Int} {r : Int} {a : Nat} : ∀ {n : Nat}, (∀ k, a ≤ k → k < a + n → T' k = T k) → pkr r T' a n = pkr r T a n := by
  intro n
  unfold pkr
  by_cases z : r = 2
  · rw [if_pos z, if_pos z]
    induction n with
    | zero => intro _; rfl
    | succ n ih =>
      intro h
      have i := ih (fun k h1 h2 => h k h1 (by omega))
      show pk5 T' a n + (T' (a + n) - 96) * 32 ^ n = pk5 T a n + (T (a + n) - 96) * 32 ^ n
      rw [i, h (a + n) (by omega) (by omega)]
  · rw [if_neg z, if_neg z]
    induction n with
    | zero => intro _; rfl
    | succ n ih =>
      intro h
      have i := ih (fun k h1 h2 => h k h1 (by omega))
      show 10 * nu10 T' a n + (T' (a + n) - 48) = 10 * nu10 T a n + (T (a + n) - 48)
      rw [i, h (a + n) (by omega) (by omega)]
theorem Toks_ext {T T' : Nat → Int} {L e : Nat} {K V S : Nat → Int} {P : Nat → Nat} (h : ∀ k, k < L → T' k = T k) (tk : Toks T L K V S P e) : Toks T' L K V S P e := by
  have adj : ∀ a, a ≤ L → (adjT T' a ↔ adjT T a) := by
    intro a ha
    unfold adjT
    constructor
    · intro ⟨h1, h2⟩
      rw [h (a - 1) (by omega)] at h2
      exact ⟨h1, h2⟩
    · intro ⟨h1, h2⟩
      rw [← h (a - 1) (by omega)] at h2
      exact ⟨h1, h2⟩
  have p8 : ∀ (r : Int) (a n : Nat), a + n ≤ L → pkr r T' a n = pkr r T a n := by
    intro r a n hn
    exact pkr_ext (fun k h1 h2 => h k (by omega))
  have one : ∀ i p q, TokAt T L K V S i p q → TokAt T' L K V S i p q := by
    intro i p q ⟨a, a1, a2, a3, a4, a5⟩
    refine ⟨a, a1, a2, fun k k1 k2 => by rw [h k (by omega)]; exact a3 k k1 k2, a4, ?_⟩
    rcases a5 with z | ⟨z0, z1, z2, z3, z4⟩ | ⟨z0, z1, z2, z3, z4⟩ | ⟨z0, z1, z2, z3, z4⟩ | ⟨y0, r, hr, y1, y2, y3, y4, y5, y6, y7⟩ | ⟨y0, r, hr, y1, y2, y3, y4⟩
    · exact Or.inl z
    · exact Or.inr (Or.inl ⟨z0, by rw [h a z0]; exact z1, z2, by rw [h a z0]; exact z3, z4⟩)
    · exact Or.inr (Or.inr (Or.inl ⟨z0, by rw [h a z0]; exact z1, z2, z3, z4⟩))
    · exact Or.inr (Or.inr (Or.inr (Or.inl ⟨z0, by rw [h a z0]; exact z1, (adj a a2).mpr z2, z3, z4⟩)))
    · refine Or.inr (Or.inr (Or.inr (Or.inr (Or.inl ⟨fun z => y0 ((adj a a2).mp z), r, hr, y1, y2, y3, fun k k1 k2 => by rw [h k (by omega)]; exact y4 k k1 k2, fun z => by rw [h q z]; exact y5 z, y6, ?_⟩))))
      rw [y7]
      exact (p8 r a (q - a) (by omega)).symm
    · exact Or.inr (Or.inr (Or.inr (Or.inr (Or.inr ⟨fun z => y0 ((adj a a2).mp z), r, hr, y1, fun k k1 k2 => by rw [h k (by omega)]; exact y2 k k1 k2, y3, y4⟩))))
  obtain ⟨⟨t0, t1, t2⟩, t3, t4⟩ := tk
  exact ⟨⟨t0, fun i hi => one _ _ _ (t1 i hi), t2⟩, one _ _ _ t3, t4⟩
