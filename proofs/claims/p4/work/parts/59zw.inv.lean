/-! what holds between the ops: the tape alike, the Reader's own words, the FAULT alike, as many BOYS on both sides -/
def xiS : List (Nat × Nat) := [(2, 0), (2, 1), (386, 10), (386, 11), (0, 3), (386, 12), (7, 1), (28, 1)]
def xiC : List Nat := [3, 388]
def XS (s s' : zF) : Prop := (∀ p ∈ xiS, s' p.1 p.2 = s p.1 p.2) ∧ ∀ c ∈ xiC, s' c = s c
theorem XS.trans {s g h : zF} (a : XS s g) (b : XS g h) : XS s h := ⟨fun p hp => (b.1 p hp).trans (a.1 p hp), fun c hc => (b.2 c hc).trans (a.2 c hc)⟩
theorem XS_fr {R : zRL} {s s' : zF} (F : zFr R s s') (n : ((xiS.all fun p => zNS R p.1 p.2) && xiC.all fun c => zNA R c) = true) : XS s s' := by
  rw [Bool.and_eq_true] at n
  exact ⟨fun p hp => F.s (List.all_eq_true.mp n.1 p hp), fun c hc => F.a (List.all_eq_true.mp n.2 c hc)⟩
def XI (s : zF) : Prop := TPE s ∧ OWS s ∧ (s 2 0 = s 386 10 ∧ s 2 1 = s 386 11) ∧ s (s 0 3).toNat 1 = s 388 (s 386 12).toNat
theorem XI.of1 {s s' : zF} (h : XI s) (two : (s 0 3).toNat = 7 ∨ (s 0 3).toNat = 28) (x : XS s s') (tp : TPE s') : XI s' := by
  obtain ⟨h1, h2, ⟨h3, h4⟩, h5⟩ := h
  obtain ⟨x1, x2⟩ := x
  have a1 : s' 2 0 = s 2 0 := x1 (2, 0) (by decide)
  have a2 : s' 2 1 = s 2 1 := x1 (2, 1) (by decide)
  have a3 : s' 386 10 = s 386 10 := x1 (386, 10) (by decide)
  have a4 : s' 386 11 = s 386 11 := x1 (386, 11) (by decide)
  have a5 : s' 0 3 = s 0 3 := x1 (0, 3) (by decide)
  have a6 : s' 386 12 = s 386 12 := x1 (386, 12) (by decide)
  have a7 : s' 7 1 = s 7 1 := x1 (7, 1) (by decide)
  have a8 : s' 28 1 = s 28 1 := x1 (28, 1) (by decide)
  have a9 : s' 388 = s 388 := x2 388 (by decide)
  have a0 : s' 3 = s 3 := x2 3 (by decide)
  refine ⟨tp, fun k hk => by rw [a0]; exact h2 k hk, ⟨by omega, by omega⟩, ?_⟩
  rw [a5, a6, a9, ← h5]
  rcases two with z | z
  · rw [z, a7]
  · rw [z, a8]
theorem XI.of {s s' : zF} (h : XI s) (two : (s 0 3).toNat = 7 ∨ (s 0 3).toNat = 28) (x : XS s s') (t1 : s' 1 = s 1) (t2 : s' 387 = s 387) (a : s' 0 1 = s' 386 1) (b : 0 ≤ s' 0 1) (c : s' 0 1 ≤ s 0 1) : XI s' := by
  refine h.of1 two x ⟨a, b, fun k hk => ?_⟩
  rw [t1, t2]
  exact h.1.2.2 k (by omega)
/-- a text on both sides -/
theorem XI_dorm {s s1 s2 : zF} {v w : Int} {t : zK} (h : XI s) (two : (s 0 3).toNat = 7 ∨ (s 0 3).toNat = 28) (two1 : (s1 0 3).toNat = 7 ∨ (s1 0 3).toNat = 28)
    (dc : (∃ n d, prF t 91 ds0 0 = .inl (n, d) ∧ v = (n : Int) ∧ s1 2 0 = 0 ∧ s1 2 1 = -1 ∧ DIC t s1 (s1 0 3).toNat d) ∨ ∃ f, prF t 91 ds0 0 = .inr f ∧ v = -1 ∧ s1 2 0 = f.1 ∧ s1 2 1 = f.2 ∧ s1 0 3 = s 0 3 ∧ ∀ a k : Nat, (s 0 3).toNat ≤ a → a < (s 0 3).toNat + 21 → s1 a k = s a k)
    (rf : RFQ t s1 w s2) (k9 : s2 386 10 = 0 → s2 386 11 = -1) (c1 : s1 386 12 = s 386 12 ∧ s1 388 = s 388 ∧ s1 1 = s 1 ∧ s1 3 = s 3 ∧ s1 387 = s 387) (c2 : s2 2 0 = s1 2 0 ∧ s2 2 1 = s1 2 1 ∧ s2 0 3 = s1 0 3 ∧ s2 7 1 = s1 7 1 ∧ s2 28 1 = s1 28 1 ∧ s2 1 = s1 1 ∧ s2 3 = s1 3 ∧ s2 387 = s1 387) (l : s2 0 1 = 0) (l' : s2 386 1 = 0) (hb : 0 ≤ s 386 12) : v = w ∧ XI s2 := by
  obtain ⟨h1, h2, ⟨h3, h4⟩, h5⟩ := h
  obtain ⟨d1, d2, d3, d4, d5⟩ := c1
  obtain ⟨e1, e2, e3, e4, e5, e6, e7, e8⟩ := c2
  have tp : TPE s2 := ⟨by omega, by omega, fun k hk => by omega⟩
  have ow : OWS s2 := fun k hk => by
    rw [e7, d4]
    exact h2 k hk
  have eb : s2 (s2 0 3).toNat 1 = s1 (s1 0 3).toNat 1 := by
    rw [e3]
    rcases two1 with z | z
    · rw [z]
      exact e4
    · rw [z]
      exact e5
  rcases dc with ⟨n, d, p1, p2, p3, p4, p5⟩ | ⟨f, p1, p2, p3, p4, p5, p6⟩
  · rcases rf with ⟨n', d', q1, q2, q3, q4, q5⟩ | ⟨f', q1, -⟩
    · rw [p1] at q1
      cases q1
      refine ⟨by omega, tp, ow, ⟨by omega, by rw [e2, p4, k9 q3]⟩, ?_⟩
      obtain ⟨u, hu, u35, un, -, -⟩ := q4
      rw [eb, p5.1.1, q5, u35, show ((u : Nat) : Int).toNat = u from rfl, un.1]
    · rw [p1] at q1
      cases q1
  · rcases rf with ⟨n', d', q1, -⟩ | ⟨f', q1, q2, q3, q4, q5, q6⟩
    · rw [p1] at q1
      cases q1
    · rw [p1] at q1
      cases q1
      refine ⟨by omega, tp, ow, ⟨by omega, by omega⟩, ?_⟩
      rw [eb, p5, p6 _ _ (Nat.le_refl _) (by omega), h5, q5, d1]
      rw [q6 (s 386 12).toNat (by omega), d2]
