/-! what holds between the ops: the tape alike, the Reader's own words, the FAULT alike, as many BOYS on both sides, the names alike -/
def xiS : List (Nat × Nat) := [(2, 0), (2, 1), (386, 10), (386, 11), (0, 3), (386, 12), (7, 1), (28, 1), (7, 2), (28, 2)]
def xiC : List Nat := [3, 388, 8, 29, 14, 35, 389, 396, 397]
def XS (s s' : zF) : Prop := (∀ p ∈ xiS, s' p.1 p.2 = s p.1 p.2) ∧ ∀ c ∈ xiC, s' c = s c
theorem XS.trans {s g h : zF} (a : XS s g) (b : XS g h) : XS s h := ⟨fun p hp => (b.1 p hp).trans (a.1 p hp), fun c hc => (b.2 c hc).trans (a.2 c hc)⟩
theorem XS_fr {R : zRL} {s s' : zF} (F : zFr R s s') (n : ((xiS.all fun p => zNS R p.1 p.2) && xiC.all fun c => zNA R c) = true) : XS s s' := by
  rw [Bool.and_eq_true] at n
  exact ⟨fun p hp => F.s (List.all_eq_true.mp n.1 p hp), fun c hc => F.a (List.all_eq_true.mp n.2 c hc)⟩
/-- the names alike: of BOYS, of DREAMS -/
def NAL (s : zF) : Prop := (∀ k : Nat, (k : Int) < s (s 0 3).toNat 1 → NAM (s ((s 0 3).toNat + 1) k) (s 389 (12 * (s 386 12).toNat + k))) ∧ s (s 0 3).toNat 2 = s 396 (s 386 12).toNat ∧ ∀ k : Nat, (k : Int) < s (s 0 3).toNat 2 → NAM (s ((s 0 3).toNat + 7) k) (s 397 (6 * (s 386 12).toNat + k))
def XI (s : zF) : Prop := TPE s ∧ OWS s ∧ (s 2 0 = s 386 10 ∧ s 2 1 = s 386 11) ∧ s (s 0 3).toNat 1 = s 388 (s 386 12).toNat ∧ NAL s
theorem NAL_of {s g : zF} (h : NAL s) (e0 : (g 0 3).toNat = (s 0 3).toNat) (e12 : (g 386 12).toNat = (s 386 12).toNat) (b1 : g (s 0 3).toNat 1 = s (s 0 3).toNat 1) (b2 : g (s 0 3).toNat 2 = s (s 0 3).toNat 2) (c1 : g ((s 0 3).toNat + 1) = s ((s 0 3).toNat + 1)) (c7 : g ((s 0 3).toNat + 7) = s ((s 0 3).toNat + 7)) (d1 : ∀ k : Nat, (k : Int) < s (s 0 3).toNat 1 → g 389 (12 * (s 386 12).toNat + k) = s 389 (12 * (s 386 12).toNat + k)) (d2 : g 396 (s 386 12).toNat = s 396 (s 386 12).toNat) (d3 : ∀ k : Nat, (k : Int) < s (s 0 3).toNat 2 → g 397 (6 * (s 386 12).toNat + k) = s 397 (6 * (s 386 12).toNat + k)) : NAL g := by
  obtain ⟨h1, h2, h3⟩ := h
  unfold NAL
  rw [e0, e12, b1, b2, c1, c7]
  refine ⟨fun k hk => ?_, h2.trans d2.symm, fun k hk => ?_⟩
  · rw [d1 k hk]
    exact h1 k hk
  · rw [d3 k hk]
    exact h3 k hk
theorem XI.of1 {s s' : zF} (h : XI s) (two : (s 0 3).toNat = 7 ∨ (s 0 3).toNat = 28) (x : XS s s') (tp : TPE s') : XI s' := by
  obtain ⟨h1, h2, ⟨h3, h4⟩, h5, h6⟩ := h
  obtain ⟨x1, x2⟩ := x
  have a1 : s' 2 0 = s 2 0 := x1 (2, 0) (by decide)
  have a2 : s' 2 1 = s 2 1 := x1 (2, 1) (by decide)
  have a3 : s' 386 10 = s 386 10 := x1 (386, 10) (by decide)
  have a4 : s' 386 11 = s 386 11 := x1 (386, 11) (by decide)
  have a5 : s' 0 3 = s 0 3 := x1 (0, 3) (by decide)
  have a6 : s' 386 12 = s 386 12 := x1 (386, 12) (by decide)
  have a7 : s' 7 1 = s 7 1 := x1 (7, 1) (by decide)
  have a8 : s' 28 1 = s 28 1 := x1 (28, 1) (by decide)
  have a9 : s' 388 = s 388 := x2 388 (by decide)
  have a0 : s' 3 = s 3 := x2 3 (by decide)
  have b7 : s' 7 2 = s 7 2 := x1 (7, 2) (by decide)
  have b8 : s' 28 2 = s 28 2 := x1 (28, 2) (by decide)
  have q9 : s' 389 = s 389 := x2 389 (by decide)
  have q6 : s' 396 = s 396 := x2 396 (by decide)
  have q7 : s' 397 = s 397 := x2 397 (by decide)
  have p1 : s' 8 = s 8 := x2 8 (by decide)
  have p2 : s' 29 = s 29 := x2 29 (by decide)
  have p3 : s' 14 = s 14 := x2 14 (by decide)
  have p4 : s' 35 = s 35 := x2 35 (by decide)
  refine ⟨tp, fun k hk => by rw [a0]; exact h2 k hk, ⟨by omega, by omega⟩, ?_, ?_⟩
  · rw [a5, a6, a9, ← h5]
    rcases two with z | z
    · rw [z, a7]
    · rw [z, a8]
  · refine NAL_of h6 (by rw [a5]) (by rw [a6]) ?_ ?_ ?_ ?_ (fun k _ => by rw [q9]) (by rw [q6]) (fun k _ => by rw [q7])
    all_goals (rcases two with z | z <;> rw [z] <;> assumption)
theorem XI.of {s s' : zF} (h : XI s) (two : (s 0 3).toNat = 7 ∨ (s 0 3).toNat = 28) (x : XS s s') (t1 : s' 1 = s 1) (t2 : s' 387 = s 387) (a : s' 0 1 = s' 386 1) (b : 0 ≤ s' 0 1) (c : s' 0 1 ≤ s 0 1) : XI s' := by
  refine h.of1 two x ⟨a, b, fun k hk => ?_⟩
  rw [t1, t2]
  exact h.1.2.2 k (by omega)
/-- a text on both sides -/
theorem XI_dorm {s s1 s2 : zF} {v w : Int} {t : zK} {T : Nat → Int} {L e : Nat} {P : Nat → Nat} (h : XI s) (two : (s 0 3).toNat = 7 ∨ (s 0 3).toNat = 28) (two1 : (s1 0 3).toNat = 7 ∨ (s1 0 3).toNat = 28) (tk : Toks T L t.1 t.2.1 t.2.2 P e)
    (dc : (∃ n d, prF t 91 ds0 0 = .inl (n, d) ∧ v = (n : Int) ∧ s1 2 0 = 0 ∧ s1 2 1 = -1 ∧ DIC t s1 (s1 0 3).toNat d) ∨ ∃ f, prF t 91 ds0 0 = .inr f ∧ v = -1 ∧ s1 2 0 = f.1 ∧ s1 2 1 = f.2 ∧ s1 0 3 = s 0 3 ∧ ∀ a k : Nat, (s 0 3).toNat ≤ a → a < (s 0 3).toNat + 21 → s1 a k = s a k)
    (rf : RFQ t e s1 w s2) (k9 : s2 386 10 = 0 → s2 386 11 = -1) (c1 : s1 386 12 = s 386 12 ∧ s1 388 = s 388 ∧ s1 1 = s 1 ∧ s1 3 = s 3 ∧ s1 387 = s 387 ∧ s1 389 = s 389 ∧ s1 396 = s 396 ∧ s1 397 = s 397) (c2 : s2 2 0 = s1 2 0 ∧ s2 2 1 = s1 2 1 ∧ s2 0 3 = s1 0 3 ∧ (s2 7 = s1 7 ∧ s2 28 = s1 28) ∧ (s2 8 = s1 8 ∧ s2 29 = s1 29 ∧ s2 14 = s1 14 ∧ s2 35 = s1 35) ∧ s2 1 = s1 1 ∧ s2 3 = s1 3 ∧ s2 387 = s1 387) (l : s2 0 1 = 0) (l' : s2 386 1 = 0) (hb : 0 ≤ s 386 12) (hb2 : ∀ k, s 388 k ≤ 12) (hb3 : ∀ k, s 396 k ≤ 6) : v = w ∧ XI s2 := by
  obtain ⟨h1, h2, ⟨h3, h4⟩, h5, h6⟩ := h
  obtain ⟨d1, d2, d3, d4, d5, d9, d6, d7⟩ := c1
  obtain ⟨e1, e2, e3, ⟨e4, e5⟩, ⟨f1, f2, f3, f4⟩, e6, e7, e8⟩ := c2
  have tp : TPE s2 := ⟨by omega, by omega, fun k hk => by omega⟩
  have ow : OWS s2 := fun k hk => by
    rw [e7, d4]
    exact h2 k hk
  have eb : s2 (s2 0 3).toNat = s1 (s1 0 3).toNat := by
    rw [e3]
    rcases two1 with z | z
    · rw [z]
      exact e4
    · rw [z]
      exact e5
  have eb1 : s2 ((s2 0 3).toNat + 1) = s1 ((s1 0 3).toNat + 1) := by
    rw [e3]
    rcases two1 with z | z
    · rw [z]
      exact f1
    · rw [z]
      exact f2
  have eb7 : s2 ((s2 0 3).toNat + 7) = s1 ((s1 0 3).toNat + 7) := by
    rw [e3]
    rcases two1 with z | z
    · rw [z]
      exact f3
    · rw [z]
      exact f4
  rcases dc with ⟨n, d, p1, p2, p3, p4, p5⟩ | ⟨f, p1, p2, p3, p4, p5, p6⟩
  · rcases rf with ⟨n', d', q1, q2, q3, q4, q5⟩ | ⟨f', q1, -⟩
    · rw [p1] at q1
      cases q1
      obtain ⟨u, hu, u35, un, ud, -⟩ := q4
      have u12 : (s2 386 12).toNat = u := by omega
      refine ⟨by omega, tp, ow, ⟨by omega, by rw [e2, p4, k9 q3]⟩, ?_, ?_, ?_, ?_⟩
      · rw [eb, p5.1.1, u12, un.1]
      · intro k hk
        rw [eb, p5.1.1] at hk
        have hl : k < (dB d).length := by omega
        obtain ⟨y1, y2, y3, y4⟩ := un.2 k hl
        rw [eb1, u12, p5.1.2 k hl, y1]
        exact tok_nam tk y4 y3
      · rw [eb, p5.2.1.1, u12, ud.1]
      · intro k hk
        rw [eb, p5.2.1.1] at hk
        have hl : k < (dD d).length := by omega
        obtain ⟨y1, y2, y3, y4⟩ := ud.2 k hl
        rw [eb7, u12, p5.2.1.2 k hl, y1]
        exact tok_nam tk y4 y3
    · rw [p1] at q1
      cases q1
  · rcases rf with ⟨n', d', q1, -⟩ | ⟨f', q1, q2, q3, q4, q5, g8, g9, g6, g7⟩
    · rw [p1] at q1
      cases q1
    · rw [p1] at q1
      cases q1
      have hc : ∀ a, (s 0 3).toNat ≤ a → a < (s 0 3).toNat + 21 → s1 a = s a := fun a a1 a2 => funext fun k => p6 a k a1 a2
      have k0 : (s2 0 3).toNat = (s 0 3).toNat := by omega
      have k12 : (s2 386 12).toNat = (s 386 12).toNat := by omega
      have kb : s2 (s 0 3).toNat = s (s 0 3).toNat := by
        rw [← k0, eb, p5, hc _ (Nat.le_refl _) (by omega), k0]
      have kb1 : s2 ((s 0 3).toNat + 1) = s ((s 0 3).toNat + 1) := by
        rw [← k0, eb1, p5, hc _ (by omega) (by omega), k0]
      have kb7 : s2 ((s 0 3).toNat + 7) = s ((s 0 3).toNat + 7) := by
        rw [← k0, eb7, p5, hc _ (by omega) (by omega), k0]
      have n1 := hb2 (s 386 12).toNat
      have n2 := hb3 (s 386 12).toNat
      have m1 := h6.2.1
      refine ⟨by omega, tp, ow, ⟨by omega, by omega⟩, ?_, ?_⟩
      · rw [k0, k12, kb, h5, g8 (s 386 12).toNat (by omega), d2]
      · refine NAL_of h6 k0 k12 (by rw [kb]) (by rw [kb]) kb1 kb7 (fun k hk => ?_) ?_ (fun k hk => ?_)
        · rw [g9 _ (by omega) (by omega), d9]
        · rw [g6 _ (by omega), d6]
        · rw [g7 _ (by omega) (by omega), d7]
