/-! MARKS and LASTS alike between the ops -/
def VAL (s : zF) : Prop := (∀ k : Nat, (k : Int) < s (s 0 3).toNat 1 → s ((s 0 3).toNat + 6) k = s 394 (12 * (s 386 12).toNat + k)) ∧ ∀ k : Nat, (k : Int) < s (s 0 3).toNat 2 → s ((s 0 3).toNat + 9) k = s 399 (6 * (s 386 12).toNat + k)
def vlC : List Nat := [13, 34, 16, 37, 394, 399]
theorem VAL_of {s s' : zF} (h : VAL s) (two : (s 0 3).toNat = 7 ∨ (s 0 3).toNat = 28) (x : XS s s') (v : ∀ c ∈ vlC, s' c = s c) : VAL s' := by
  obtain ⟨x1, x2⟩ := x
  have a5 : s' 0 3 = s 0 3 := x1 (0, 3) (by decide)
  have a6 : s' 386 12 = s 386 12 := x1 (386, 12) (by decide)
  have a7 : s' 7 1 = s 7 1 := x1 (7, 1) (by decide)
  have a8 : s' 28 1 = s 28 1 := x1 (28, 1) (by decide)
  have b7 : s' 7 2 = s 7 2 := x1 (7, 2) (by decide)
  have b8 : s' 28 2 = s 28 2 := x1 (28, 2) (by decide)
  have c1 : s' 13 = s 13 := v 13 (by decide)
  have c2 : s' 34 = s 34 := v 34 (by decide)
  have c3 : s' 16 = s 16 := v 16 (by decide)
  have c4 : s' 37 = s 37 := v 37 (by decide)
  have c5 : s' 394 = s 394 := v 394 (by decide)
  have c6 : s' 399 = s 399 := v 399 (by decide)
  obtain ⟨h1, h2⟩ := h
  unfold VAL
  rw [a5, a6, c5, c6]
  rcases two with z | z
  · rw [z] at h1 h2 ⊢
    refine ⟨fun k hk => ?_, fun k hk => ?_⟩
    · rw [a7] at hk
      rw [show s' (7 + 6) = s (7 + 6) from c1]
      exact h1 k hk
    · rw [b7] at hk
      rw [show s' (7 + 9) = s (7 + 9) from c3]
      exact h2 k hk
  · rw [z] at h1 h2 ⊢
    refine ⟨fun k hk => ?_, fun k hk => ?_⟩
    · rw [a8] at hk
      rw [show s' (28 + 6) = s (28 + 6) from c2]
      exact h1 k hk
    · rw [b8] at hk
      rw [show s' (28 + 9) = s (28 + 9) from c4]
      exact h2 k hk
/-- both Dorms of one text -/
theorem VAL_text {s1 s2 : zF} {t : zK} {e : Nat} {d : zDS} (dc : DIC t s1 (s1 0 3).toNat d) (dr : DIR t e s2 d) (k : s2 386 12 = s2 386 35) (e0 : s2 0 3 = s1 0 3) (eb : s2 (s1 0 3).toNat = s1 (s1 0 3).toNat) (e6 : s2 ((s1 0 3).toNat + 6) = s1 ((s1 0 3).toNat + 6)) (e9 : s2 ((s1 0 3).toNat + 9) = s1 ((s1 0 3).toNat + 9)) : VAL s2 := by
  obtain ⟨⟨n1, -⟩, ⟨m1, -⟩, -, c1, c2⟩ := dc
  obtain ⟨w, hw, hw2, -, -, -, r1, r2⟩ := dr
  have ew : (s2 386 12).toNat = w := by omega
  unfold VAL
  rw [e0, eb, e6, e9, ew]
  refine ⟨fun k hk => ?_, fun k hk => ?_⟩
  · have a := c1 k (by omega)
    rw [Nat.zero_add] at a
    rw [a, r1 k (by omega)]
  · have a := c2 k (by omega)
    rw [Nat.zero_add] at a
    rw [a, r2 k (by omega)]
/-- a text on both sides, refused ones too -/
theorem VAL_dorm {s s1 s2 : zF} {v w : Int} {t : zK} {e : Nat} (h : XI s) (hv : VAL s) (two1 : (s1 0 3).toNat = 7 ∨ (s1 0 3).toNat = 28)
    (dc : (∃ n d, prF t 91 ds0 0 = .inl (n, d) ∧ v = (n : Int) ∧ s1 2 0 = 0 ∧ s1 2 1 = -1 ∧ DIC t s1 (s1 0 3).toNat d) ∨ ∃ f, prF t 91 ds0 0 = .inr f ∧ v = -1 ∧ s1 2 0 = f.1 ∧ s1 2 1 = f.2 ∧ s1 0 3 = s 0 3 ∧ ∀ a k : Nat, (s 0 3).toNat ≤ a → a < (s 0 3).toNat + 21 → s1 a k = s a k)
    (rf : RFQ t e s1 w s2) (c1 : s1 386 12 = s 386 12 ∧ s1 394 = s 394 ∧ s1 399 = s 399) (c2 : s2 0 3 = s1 0 3 ∧ (s2 7 = s1 7 ∧ s2 28 = s1 28) ∧ (s2 13 = s1 13 ∧ s2 34 = s1 34 ∧ s2 16 = s1 16 ∧ s2 37 = s1 37)) (hb : 0 ≤ s 386 12) (hb2 : ∀ k, s 388 k ≤ 12) (hb3 : ∀ k, s 396 k ≤ 6) : VAL s2 := by
  obtain ⟨d1, d4, d9⟩ := c1
  obtain ⟨e3, ⟨e4, e5⟩, f1, f2, f3, f4⟩ := c2
  have eb : s2 (s1 0 3).toNat = s1 (s1 0 3).toNat := by
    rcases two1 with z | z
    · rw [z]
      exact e4
    · rw [z]
      exact e5
  have eb6 : s2 ((s1 0 3).toNat + 6) = s1 ((s1 0 3).toNat + 6) := by
    rcases two1 with z | z
    · rw [z]
      exact f1
    · rw [z]
      exact f2
  have eb9 : s2 ((s1 0 3).toNat + 9) = s1 ((s1 0 3).toNat + 9) := by
    rcases two1 with z | z
    · rw [z]
      exact f3
    · rw [z]
      exact f4
  rcases dc with ⟨n, d, p1, p2, p3, p4, p5⟩ | ⟨f, p1, p2, p3, p4, p5, p6⟩
  · rcases rf with ⟨n', d', q1, q2, q3, q4, q5⟩ | ⟨f', q1, -⟩
    · rw [p1] at q1
      cases q1
      exact VAL_text p5 q4 q5 e3 eb eb6 eb9
    · rw [p1] at q1
      cases q1
  · rcases rf with ⟨n', d', q1, -⟩ | ⟨f', q1, q2, q3, q4, q5, -, -, -, -, g4, g9⟩
    · rw [p1] at q1
      cases q1
    · have hc : ∀ a, (s 0 3).toNat ≤ a → a < (s 0 3).toNat + 21 → s1 a = s a := fun a a1 a2 => funext fun k => p6 a k a1 a2
      have k12 : (s2 386 12).toNat = (s 386 12).toNat := by omega
      have kb : s1 (s 0 3).toNat = s (s 0 3).toNat := hc _ (Nat.le_refl _) (by omega)
      have kb6 : s1 ((s 0 3).toNat + 6) = s ((s 0 3).toNat + 6) := hc _ (by omega) (by omega)
      have kb9 : s1 ((s 0 3).toNat + 9) = s ((s 0 3).toNat + 9) := hc _ (by omega) (by omega)
      have n1 := hb2 (s 386 12).toNat
      have n2 := hb3 (s 386 12).toNat
      have m0 := h.2.2.2.1
      have m1 := h.2.2.2.2.2.1
      obtain ⟨h1, h2⟩ := hv
      unfold VAL
      rw [e3, eb, eb6, eb9, k12, p5, kb, kb6, kb9]
      refine ⟨fun k hk => ?_, fun k hk => ?_⟩
      · rw [g4 _ (by omega) (by omega), d4]
        exact h1 k hk
      · rw [g9 _ (by omega) (by omega), d9]
        exact h2 k hk
/-- between the ops: with MARKS, LASTS -/
def XIV (s : zF) : Prop := XI s ∧ VAL s
theorem XIV.of1 {s s' : zF} (h : XIV s) (two : (s 0 3).toNat = 7 ∨ (s 0 3).toNat = 28) (x : XS s s') (v : ∀ c ∈ vlC, s' c = s c) (tp : TPE s') : XIV s' := ⟨h.1.of1 two x tp, VAL_of h.2 two x v⟩
theorem XIV.of {s s' : zF} (h : XIV s) (two : (s 0 3).toNat = 7 ∨ (s 0 3).toNat = 28) (x : XS s s') (v : ∀ c ∈ vlC, s' c = s c) (t1 : s' 1 = s 1) (t2 : s' 387 = s 387) (a : s' 0 1 = s' 386 1) (b : 0 ≤ s' 0 1) (c : s' 0 1 ≤ s 0 1) : XIV s' := ⟨h.1.of two x t1 t2 a b c, VAL_of h.2 two x v⟩
theorem VL_fr {R : zRL} {s s' : zF} (F : zFr R s s') (n : (vlC.all fun c => zNA R c) = true) : ∀ c ∈ vlC, s' c = s c := fun c hc => F.a (List.all_eq_true.mp n c hc)
/-- the reference's image is the class's -/
theorem IMAGE_both {s g : zF} (h : XI s) (hv : VAL s) (two : (s 0 3).toNat = 7 ∨ (s 0 3).toNat = 28) (hb : s 49 0 = s (s 0 3).toNat 1) (b0 : ∀ k, 0 ≤ s 1 k) (b1 : ∀ k, 0 ≤ s 387 k) (n0 : 0 ≤ s 49 0) (e1 : g 387 = s 387) (e2 : g 386 1 = s 386 1) (e3 : g 386 12 = s 386 12) (e4 : g 388 = s 388) (e5 : g 396 = s 396) (e6 : g 399 = s 399) (e7 : g 394 = s 394) : IMAGE (g 387) (g 386 1) (NBR g) (NDR g) (LASR g) (MKR g) ↔ IMAGE (s 1) (s 0 1) (s 49 0) (s (s 0 3).toNat 2) (s ((s 0 3).toNat + 9)) (s ((s 0 3).toNat + 6)) := by
  obtain ⟨⟨t1, t2, t3⟩, -, -, h5, -, h6, -⟩ := h
  obtain ⟨v1, v2⟩ := hv
  have q1 : NBR g = s 49 0 := by
    unfold NBR
    rw [e3, e4, hb, h5]
  have q2 : NDR g = s (s 0 3).toNat 2 := by
    unfold NDR
    rw [e3, e5, h6]
  rw [e1, e2, q1, q2, ← t1]
  refine IMAGE_iff n0 b0 b1 (fun k hk => (t3 k hk).symm) (fun d hd => ?_) (fun b hb2 => ?_)
  · unfold LASR
    rw [e3, e6]
    exact (v2 d hd).symm
  · unfold MKR
    rw [e3, e7]
    exact (v1 b (by omega)).symm
