/-! what holds between the ops of the class: the two Dorms are two, the rope and the held copies have as many BOYS as the Dorm -/
def ciK : List (Nat × Nat) := [(0, 3), (2, 8), (49, 0), (77, 0), (77, 1)] ++ (List.range 20).map fun j => (79 + 14 * j, 0)
def CI (s : zF) : Prop := (s 0 3 = 7 ∧ s 2 8 = 28 ∨ s 0 3 = 28 ∧ s 2 8 = 7) ∧ s 49 0 = s (s 0 3).toNat 1 ∧ ∀ i : Nat, i < 20 → (i : Int) < s 77 0 → s (79 + 14 * ((s 77 1 + 19 - (i : Int)) % 20).toNat) 0 = s (s 0 3).toNat 1
theorem ciK_m {j : Nat} (h : j < 20) : (79 + 14 * j, 0) ∈ ciK := List.mem_append.mpr (Or.inr (List.mem_map.mpr ⟨j, List.mem_range.mpr h, rfl⟩))
theorem ci_mod (x : Int) (i : Nat) : ((x + 19 - (i : Int)) % 20).toNat < 20 := by omega
theorem CI.of1 {s s' : zF} (h : CI s) (f : ∀ p ∈ ciK, s' p.1 p.2 = s p.1 p.2) (f2 : s' (s 0 3).toNat 1 = s (s 0 3).toNat 1) : CI s' := by
  obtain ⟨h1, h2, h3⟩ := h
  have e1 : s' 0 3 = s 0 3 := f (0, 3) (by decide)
  have e2 : s' 2 8 = s 2 8 := f (2, 8) (by decide)
  have e3 : s' 49 0 = s 49 0 := f (49, 0) (by decide)
  have e4 : s' 77 0 = s 77 0 := f (77, 0) (by decide)
  have e5 : s' 77 1 = s 77 1 := f (77, 1) (by decide)
  unfold CI
  rw [e1, e2, e3, e4, e5, f2]
  refine ⟨h1, h2, fun i hi hj => ?_⟩
  exact (f _ (ciK_m (ci_mod (s 77 1) i))).trans (h3 i hi hj)
theorem CI.two {s : zF} (h : CI s) : (s 0 3).toNat = 7 ∨ (s 0 3).toNat = 28 := by
  obtain ⟨h1, -⟩ := h
  omega
theorem CI.of {s s' : zF} (h : CI s) (f : ∀ p ∈ ciK, s' p.1 p.2 = s p.1 p.2) (f7 : s' 7 1 = s 7 1) (f28 : s' 28 1 = s 28 1) : CI s' := by
  refine h.of1 f ?_
  rcases h.two with e | e
  · rw [e]
    exact f7
  · rw [e]
    exact f28
def ciL : List (Nat × Nat) := [(7, 1), (28, 1)] ++ ciK
theorem CI.ofL {s s' : zF} (h : CI s) (f : ∀ p ∈ ciL, s' p.1 p.2 = s p.1 p.2) : CI s' := h.of (fun p hp => f p (List.mem_append.mpr (Or.inr hp))) (f (7, 1) (by decide)) (f (28, 1) (by decide))
theorem CI.fr {R : zRL} {s s' : zF} (h : CI s) (F : zFr R s s') (n : (ciL.all fun p => zNS R p.1 p.2) = true) : CI s' := h.ofL fun p hp => F.s (List.all_eq_true.mp n p hp)
theorem CI.ups {s : zF} {a k : Nat} {v : Int} (h : CI s) (n : (ciL.all fun p => decide (p.1 ≠ a) || decide (p.2 ≠ k)) = true) : CI (zup s a k v) := by
  refine h.ofL fun p hp => zup_ne ?_
  have := List.all_eq_true.mp n p hp
  simp only [Bool.or_eq_true, decide_eq_true_eq] at this
  exact this
theorem CI.upa {s : zF} {a k : Nat} {v : Int} (h : CI s) (n : (ciL.all fun p => decide (p.1 ≠ a)) = true) : CI (zup s a k v) := by
  refine h.ofL fun p hp => zup_ne (Or.inl ?_)
  have := List.all_eq_true.mp n p hp
  simp only [decide_eq_true_eq] at this
  exact this
theorem CI.cp {s s' : zF} {c : Nat} (h : CI s) (f : ∀ a k, a ≠ c → s' a k = s a k) (n : (ciL.all fun p => decide (p.1 ≠ c)) = true) : CI s' := by
  refine h.ofL fun p hp => f _ _ ?_
  have := List.all_eq_true.mp n p hp
  simp only [decide_eq_true_eq] at this
  exact this
theorem CI.rope {R : zRL} {s s' : zF} (h : CI s) (F : zFr R s s') (n : (ciL.all fun p => (p == (49, 0)) || zNS R p.1 p.2) = true) (e : s' 49 0 = s 49 0) : CI s' := by
  refine h.ofL fun p hp => ?_
  have := List.all_eq_true.mp n p hp
  rw [Bool.or_eq_true] at this
  rcases this with q | q
  · rw [beq_iff_eq] at q
    rw [q]
    exact e
  · exact F.s q
theorem CI.forget {s : zF} (h : CI s) : CI (zup s 77 0 0) := by
  obtain ⟨h1, h2, h3⟩ := h
  have e : ∀ a k, a ≠ 77 → zup s 77 0 0 a k = s a k := fun a k q => zup_ne (Or.inl q)
  have e77 : zup s 77 0 0 77 0 = 0 := zup_eq
  refine ⟨?_, ?_, fun i hi hj => ?_⟩
  · rw [e 0 3 (by decide), e 2 8 (by decide)]
    exact h1
  · have eD : zup s 77 0 0 (s 0 3).toNat 1 = s (s 0 3).toNat 1 := e _ 1 (by omega)
    rw [e 0 3 (by decide), e 49 0 (by decide), eD]
    exact h2
  · rw [e77] at hj
    omega
/-- a fresh rope -/
theorem CI.begin {R : zRL} {s s' : zF} {b : Nat} (h : CI s) (F : zFr R s s') (n : (ciL.all fun p => (p == (49, 0)) || zNS R p.1 p.2) = true) (hb : (b : Int) = s 0 3) (e : s' 49 0 = s b 1) : CI s' := by
  refine h.rope F n ?_
  rw [e, h.2.1, ← hb]
  rfl
/-- an ACT keeps a copy -/
theorem CI.keep {s g : zF} {x x7 x22 : Int} (h : CI s) (hx : x = s 77 1) (hx0 : 0 ≤ x) (hx1 : x ≤ 19) (hh0 : 0 ≤ s 77 0) (hh1 : s 77 0 ≤ 20)
    (hc : g (79 + 14 * x.toNat) 0 = s 49 0) (ho : ∀ a k, (a, k) ∈ ciL → a ≠ 79 + 14 * x.toNat → g a k = s a k) (h7 : x7 = (x + 1) % 20) (h22 : x22 ≤ 20) (h23 : x22 ≤ s 77 0 + 1) : CI (zup (zup g 77 1 x7) 77 0 x22) := by
  obtain ⟨h1, h2, h3⟩ := h
  have m : ∀ a k, (a, k) ∈ ciK → (a, k) ∈ ciL := fun a k q => List.mem_append.mpr (Or.inr q)
  have e03 : g 0 3 = s 0 3 := ho 0 3 (by decide) (by omega)
  have e28 : g 2 8 = s 2 8 := ho 2 8 (by decide) (by omega)
  have e49 : g 49 0 = s 49 0 := ho 49 0 (by decide) (by omega)
  have eD : g (s 0 3).toNat 1 = s (s 0 3).toNat 1 := by
    have t : (s 0 3).toNat = 7 ∨ (s 0 3).toNat = 28 := by omega
    rcases t with t | t
    · rw [t]
      exact ho 7 1 (by decide) (by omega)
    · rw [t]
      exact ho 28 1 (by decide) (by omega)
  have E : ∀ a k, a ≠ 77 → zup (zup g 77 1 x7) 77 0 x22 a k = g a k := fun a k q => by rw [zup_ne (Or.inl q), zup_ne (Or.inl q)]
  have e770 : zup (zup g 77 1 x7) 77 0 x22 77 0 = x22 := zup_eq
  have e771 : zup (zup g 77 1 x7) 77 0 x22 77 1 = x7 := by rw [zup_ne (Or.inr (by decide)), zup_eq]
  have eE : zup (zup g 77 1 x7) 77 0 x22 (s 0 3).toNat 1 = s (s 0 3).toNat 1 := (E _ 1 (by omega)).trans eD
  have eC : ∀ j : Nat, zup (zup g 77 1 x7) 77 0 x22 (79 + 14 * j) 0 = g (79 + 14 * j) 0 := fun j => E _ 0 (by omega)
  have e03' : zup (zup g 77 1 x7) 77 0 x22 0 3 = s 0 3 := (E 0 3 (by decide)).trans e03
  have e28' : zup (zup g 77 1 x7) 77 0 x22 2 8 = s 2 8 := (E 2 8 (by decide)).trans e28
  have e49' : zup (zup g 77 1 x7) 77 0 x22 49 0 = s 49 0 := (E 49 0 (by decide)).trans e49
  unfold CI
  rw [e03', e28', e49', eE, e770, e771]
  refine ⟨h1, h2, fun i hi hj => ?_⟩
  · rw [eC]
    by_cases z : i = 0
    · have q : ((x7 + 19 - (i : Int)) % 20).toNat = x.toNat := by omega
      rw [q, hc]
      exact h2
    · have q : ((x7 + 19 - (i : Int)) % 20).toNat = ((s 77 1 + 19 - ((i - 1 : Nat) : Int)) % 20).toNat := by omega
      have q2 : ((s 77 1 + 19 - ((i - 1 : Nat) : Int)) % 20).toNat ≠ x.toNat := by omega
      rw [q]
      exact (ho _ 0 (m _ _ (ciK_m (ci_mod (s 77 1) (i - 1)))) (by omega)).trans (h3 (i - 1) (by omega) (by omega))
/-- undo takes a copy back -/
theorem CI.back {s g : zF} {x6 x21 : Int} (h : CI s) (hh : 0 < s 77 0) (hh1 : s 77 0 ≤ 20) (hx0 : 0 ≤ s 77 1) (hx1 : s 77 1 ≤ 19) (h6 : x6 = s 77 0 - 1) (h21 : x21 = (s 77 1 + 19) % 20)
    (hc : g 49 0 = s (79 + 14 * x21.toNat) 0) (ho : ∀ a k, (a, k) ∈ ciL → a ≠ 49 → a ≠ 77 → g a k = s a k) (e0 : g 77 0 = x6) (e1 : g 77 1 = x21) : CI g := by
  obtain ⟨h1, h2, h3⟩ := h
  have m : ∀ a k, (a, k) ∈ ciK → (a, k) ∈ ciL := fun a k q => List.mem_append.mpr (Or.inr q)
  have e03 : g 0 3 = s 0 3 := ho 0 3 (by decide) (by decide) (by decide)
  have e28 : g 2 8 = s 2 8 := ho 2 8 (by decide) (by decide) (by decide)
  have eD : g (s 0 3).toNat 1 = s (s 0 3).toNat 1 := by
    have t : (s 0 3).toNat = 7 ∨ (s 0 3).toNat = 28 := by omega
    rcases t with t | t
    · rw [t]
      exact ho 7 1 (by decide) (by decide) (by decide)
    · rw [t]
      exact ho 28 1 (by decide) (by decide) (by decide)
  unfold CI
  rw [e03, e28, eD, e0, e1, hc]
  refine ⟨h1, ?_, fun i hi hj => ?_⟩
  · have q := h3 0 (by decide) (by omega)
    rw [show ((s 77 1 + 19 - ((0 : Nat) : Int)) % 20).toNat = x21.toNat by omega] at q
    exact q
  · have q := h3 (i + 1) (by omega) (by omega)
    rw [show ((s 77 1 + 19 - ((i + 1 : Nat) : Int)) % 20).toNat = ((x21 + 19 - (i : Int)) % 20).toNat by omega] at q
    exact (ho _ 0 (m _ _ (ciK_m (ci_mod x21 i))) (by omega) (by omega)).trans q
/-- a text that isn't taken: the Reader's Dorm alone is another -/
theorem CI.read {R : zRL} {s s' : zF} {q : Nat} (h : CI s) (hq : (q : Int) = s 2 8) (F : zFr R s s') (n : (ciK.all fun p => zNS R p.1 p.2) = true) (k : ∀ a k, ¬ zSq q a → s' a k = s a k) : CI s' := by
  refine h.of1 (fun p hp => F.s (List.all_eq_true.mp n p hp)) (k _ 1 ?_)
  obtain ⟨h1, -⟩ := h
  unfold zSq
  omega
/-- a text that is taken: the Dorms change places, the rope begins anew, no ACT is held -/
theorem CI.dorm {R : zRL} {s s' g g' : zF} {b c : Nat} {x : Int} (h : CI s) (F : zFr R s s') (n : (zNS R 0 3 && zNS R 2 8) = true) (hb : (b : Int) = s' 0 3) (hc : (c : Int) = s' 2 8)
    (hg : zFr [(49, 50, 0), (49, 50, 1), (50, 62, 1000), (49, 50, 14)] (zup (zup s' 0 3 (c : Int)) 2 8 (b : Int)) g) (e : g 49 0 = zup (zup s' 0 3 (c : Int)) 2 8 (b : Int) c 1) (e' : g' = zup (zup (zup g 77 0 0) 0 11 0) 0 15 x) : CI g' := by
  obtain ⟨h1, -⟩ := h
  rw [Bool.and_eq_true] at n
  have a1 := F.s n.1
  have a2 := F.s n.2
  have E : ∀ a k, a ≠ 77 → (a ≠ 0 ∨ k = 3) → g' a k = g a k := fun a k q q2 => by
    rw [e']
    exact (zup_ne (by omega)).trans ((zup_ne (by omega)).trans (zup_ne (Or.inl q)))
  have e77 : g' 77 0 = 0 := by
    rw [e', zup_ne (Or.inl (by decide)), zup_ne (Or.inl (by decide)), zup_eq]
  have e03 : g' 0 3 = (c : Int) := by
    rw [E 0 3 (by decide) (Or.inr rfl), hg.s (by decide), zup_ne (Or.inl (by decide)), zup_eq]
  have e28 : g' 2 8 = (b : Int) := by
    rw [E 2 8 (by decide) (Or.inl (by decide)), hg.s (by decide), zup_eq]
  have c7 : c = 7 ∨ c = 28 := by omega
  have eD : g' c 1 = g c 1 := E c 1 (by omega) (Or.inl (by omega))
  have eD2 : g c 1 = zup (zup s' 0 3 (c : Int)) 2 8 (b : Int) c 1 := by
    rcases c7 with t | t
    · subst t
      exact hg.s (by decide)
    · subst t
      exact hg.s (by decide)
  refine ⟨by rw [e03, e28]; omega, ?_, fun i hi hj => ?_⟩
  · rw [e03, E 49 0 (by decide) (Or.inl (by decide)), e, show ((c : Int)).toNat = c from rfl, eD, eD2]
  · rw [e77] at hj
    omega
/-- an image that on() takes: whom its bytes name -/
def IMGC (s : zF) : Prop := ∀ p : Int, 0 ≤ p → p < s 49 0 → s 1 (2 + 7 * p).toNat ≤ 11 ∧ s 1 (2 + 7 * p + 2).toNat ≤ 6 ∧ s 1 (2 + 7 * p + 4).toNat ≤ 6
theorem IMGC.of {s s' : zF} (h : IMGC s) (e1 : s' 1 = s 1) (e2 : s' 49 0 = s 49 0) : IMGC s' := by
  unfold IMGC
  rw [e1, e2]
  exact h
/-- what holds while on() sets the rope -/
def OI (s : zF) : Prop := CI s ∧ s 0 1 = 0
theorem OI.ups {s : zF} {a k : Nat} {v : Int} (h : OI s) (n : (ciL.all fun p => decide (p.1 ≠ a) || decide (p.2 ≠ k)) = true) (n2 : 0 ≠ a ∨ 1 ≠ k) : OI (zup s a k v) := ⟨h.1.ups n, (zup_ne n2).trans h.2⟩
theorem OI.upa {s : zF} {a k : Nat} {v : Int} (h : OI s) (n : (ciL.all fun p => decide (p.1 ≠ a)) = true) (n2 : 0 ≠ a) : OI (zup s a k v) := ⟨h.1.upa n, (zup_ne (Or.inl n2)).trans h.2⟩
theorem OI.fr {R : zRL} {s s' : zF} (h : OI s) (F : zFr R s s') (n : (ciL.all fun p => zNS R p.1 p.2) = true) (n2 : zNS R 0 1 = true) : OI s' := ⟨h.1.fr F n, (F.s n2).trans h.2⟩
theorem OI.forget {s : zF} (h : OI s) : OI (zup s 77 0 0) := ⟨h.1.forget, (zup_ne (Or.inl (by decide))).trans h.2⟩
theorem zFr_nl {s s' : zF} (h : zFr [] s s') : s' = s := by
  funext a k
  exact h a k zNI_nil
