/-! the reference's reader of SUMS and TESTS: what each of its steps does to that -/
abbrev zLt (x : Int) : Prop := 97 ≤ x ∧ x ≤ 122
def SG (s : zF) : Prop := 0 ≤ s 386 2 ∧ s 386 2 ≤ 1600 ∧ 0 ≤ s 386 4 ∧ s 386 4 ≤ s 386 5 ∧ s 386 5 ≤ s 386 2 ∧ 0 ≤ s 386 3 ∧ s 386 3 ≤ 3 ∧ (1 ≤ s 386 3 → s 386 4 < s 386 5) ∧ (s 386 3 = 1 → zLt (s 387 (s 386 5 - 1).toNat) ∧ (65536 ≤ s 386 7 → s 386 4 + 3 ≤ s 386 5)) ∧ 0 ≤ s 386 8 ∧ s 386 8 ≤ 5
def AP (s s' : zF) : Prop := SG s' ∧ s' 386 2 = s 386 2 ∧ s 386 5 ≤ s' 386 4 ∧ s 386 8 ≤ s' 386 8 ∧ (s' 386 8 = 0 → s' 386 3 = 1 → 0 < s' 386 4 → ¬ zLt (s 387 (s' 386 4 - 1).toNat))
abbrev RA : zRL := [(386, 387, 3), (386, 387, 4), (386, 387, 5), (386, 387, 6), (386, 387, 7), (386, 387, 8), (386, 387, 9)]
abbrev RJ : zRL := [(407, 409, 1000), (386, 387, 34), (386, 387, 44)]
/-- the signs, the bank as before -/
def KS (s s' : zF) : Prop := s' 386 2 = s 386 2 ∧ s' 386 3 = s 386 3 ∧ s' 386 4 = s 386 4 ∧ s' 386 5 = s 386 5 ∧ s' 386 7 = s 386 7 ∧ s' 386 8 = s 386 8 ∧ s' 386 35 = s 386 35 ∧ s' 387 = s 387
def PG (s s' : zF) : Prop := s' 386 2 = s 386 2 ∧ s 386 8 ≤ s' 386 8 ∧ s 386 4 ≤ s' 386 4 ∧ (1 ≤ s' 386 8 ∨ 4 * (s' 386 2 - s' 386 5) + s' 386 3 + 1 ≤ 4 * (s 386 2 - s 386 5) + s 386 3)
def PW (s s' : zF) : Prop := s' 386 2 = s 386 2 ∧ s 386 8 ≤ s' 386 8 ∧ s 386 4 ≤ s' 386 4 ∧ 4 * (s' 386 2 - s' 386 5) + s' 386 3 ≤ 4 * (s 386 2 - s 386 5) + s 386 3
def CS (c0 : Int) (s s' : zF) : Prop := ∀ p : Nat, ¬ (1600 * s 386 35 + c0 ≤ p ∧ (p : Int) < 1600 * s 386 35 + 1600) → s' 407 p = s 407 p
def QI (c0 o A B : Int) (s : zF) : Prop := ∃ D n : Nat, s 386 41 = D ∧ s 386 44 = n ∧ s 386 42 = (D : Int) - 1 ∧ D ≤ 9 ∧ ST D n (s 409) (s 410) (s 411) (s 413) (s 414) o ∧ (s 386 35 = 0 ∨ s 386 35 = 1) ∧ 0 ≤ c0 ∧ c0 ≤ s 386 34 ∧ s 386 34 + n + ((D : Int) - 1) ≤ A ∧
  (s 386 8 = 0 → 4 * ((n : Int) - cb (s 414) n) ≤ B ∧ (∀ f : Nat, f < D → s 409 f = 3 ∨ s 409 f = 4 → 15 ≤ s 412 f ∧ s 412 f ≤ 16) ∧ ∃ h, zH (s 407) (1600 * s 386 35 + c0).toNat (s 386 34 - c0).toNat = some h ∧ cb (s 414) n + c4 (s 409) D + o ≤ h)
def zB4 (s : zF) : Int := s 386 4 + if s 386 3 = 1 then 0 else 1
def RI (c0 o : Int) (s : zF) : Prop := SG s ∧ QI c0 o (s 386 4) (zB4 s) s
theorem KS.refl {s : zF} : KS s s := ⟨rfl, rfl, rfl, rfl, rfl, rfl, rfl, rfl⟩
theorem KS.trans {s s' s'' : zF} (h : KS s s') (h' : KS s' s'') : KS s s'' := by
  obtain ⟨a1, a2, a3, a4, a5, a6, a7, a8⟩ := h
  obtain ⟨b1, b2, b3, b4, b5, b6, b7, b8⟩ := h'
  exact ⟨b1.trans a1, b2.trans a2, b3.trans a3, b4.trans a4, b5.trans a5, b6.trans a6, b7.trans a7, b8.trans a8⟩
theorem KS.sg {s s' : zF} (k : KS s s') (h : SG s) : SG s' := by
  obtain ⟨a1, a2, a3, a4, a5, a6, a7, a8⟩ := k
  unfold SG at h ⊢
  rw [a1, a2, a3, a4, a5, a6, a8]
  exact h
theorem KS.b4 {s s' : zF} (k : KS s s') : zB4 s' = zB4 s := by
  obtain ⟨a1, a2, a3, a4, a5, a6, a7, a8⟩ := k
  unfold zB4
  rw [a2, a3]
theorem CS.refl {c0 : Int} {s : zF} : CS c0 s s := fun _ _ => rfl
theorem CS.trans {c0 : Int} {s s' s'' : zF} (h : CS c0 s s') (e : s' 386 35 = s 386 35) (h' : CS c0 s' s'') : CS c0 s s'' := by
  intro p hp
  rw [h' p (by rw [e]; exact hp), h p hp]
theorem CS.of {c0 : Int} {s s' s'' : zF} (h : CS c0 s s') (e : s'' 407 = s' 407) : CS c0 s s'' := by
  intro p hp
  rw [e]
  exact h p hp
theorem PG.pw {s s' : zF} (h : PG s s') (hk : s' 386 8 = 0) : PW s s' := by
  obtain ⟨a1, a2, a3, a4⟩ := h
  exact ⟨a1, a2, a3, by omega⟩
theorem AP.pg {s g g' : zF} (k : KS s g) (hs : SG s) (h1 : 1 ≤ s 386 3) (a : AP g g') : PG s g' := by
  obtain ⟨k1, k2, k3, k4, k5, k6, k7, k8⟩ := k
  obtain ⟨a1, a2, a3, a4, a5⟩ := a
  have h2 := hs
  unfold SG at h2 a1
  refine ⟨a2.trans k1, by omega, by omega, Or.inr (by omega)⟩
theorem AP.pw {s g g' : zF} (k : KS s g) (hs : SG s) (a : AP g g') : PW s g' := by
  obtain ⟨k1, k2, k3, k4, k5, k6, k7, k8⟩ := k
  obtain ⟨a1, a2, a3, a4, a5⟩ := a
  have h2 := hs
  unfold SG at h2 a1
  refine ⟨a2.trans k1, by omega, by omega, by omega⟩
theorem RI.of {c0 o A B : Int} {s s' : zF} (h : QI c0 o A B s) (a : AP s s') (f : zFr RA s s') (h0 : 0 ≤ s 386 8) (hA : A ≤ s' 386 4) (hB : s' 386 8 = 0 → B ≤ zB4 s') : RI c0 o s' := by
  refine ⟨a.1, ?_⟩
  obtain ⟨D, n, e1, e2, e3, e4, e5, e6, e7, e8, e9, e10⟩ := h
  have g41 : s' 386 41 = s 386 41 := f.s (by decide)
  have g44 : s' 386 44 = s 386 44 := f.s (by decide)
  have g42 : s' 386 42 = s 386 42 := f.s (by decide)
  have g35 : s' 386 35 = s 386 35 := f.s (by decide)
  have g34 : s' 386 34 = s 386 34 := f.s (by decide)
  have a407 : s' 407 = s 407 := f.a (by decide)
  have a409 : s' 409 = s 409 := f.a (by decide)
  have a410 : s' 410 = s 410 := f.a (by decide)
  have a411 : s' 411 = s 411 := f.a (by decide)
  have a412 : s' 412 = s 412 := f.a (by decide)
  have a413 : s' 413 = s 413 := f.a (by decide)
  have a414 : s' 414 = s 414 := f.a (by decide)
  refine ⟨D, n, g41.trans e1, g44.trans e2, g42.trans e3, e4, ?_, ?_, e7, ?_, ?_, ?_⟩
  · rw [a409, a410, a411, a413, a414]; exact e5
  · rw [g35]; exact e6
  · rw [g34]; exact e8
  · rw [g34]; omega
  · intro hk
    have hk0 : s 386 8 = 0 := by
      have h1 := a.2.2.2.1
      omega
    obtain ⟨b1, b2, h, b3, b4⟩ := e10 hk0
    have := hB hk
    rw [a409, a412, a414, a407, g35, g34]
    exact ⟨by omega, b2, h, b3, b4⟩
theorem RI.keep {c0 o o' : Int} {s s' : zF} (h : RI c0 o s) (k : KS s s') (g41 : s' 386 41 = s 386 41) (g44 : s' 386 44 = s 386 44) (g42 : s' 386 42 = s 386 42) (g34 : s' 386 34 = s 386 34)
    (a407 : s' 407 = s 407) (a409 : s' 409 = s 409) (a410 : s' 410 = s 410) (a412 : s' 412 = s 412) (a413 : s' 413 = s 413) (a414 : s' 414 = s 414) (ho : o' ≤ o)
    (hst : ∀ D n : Nat, s 386 41 = D → ST D n (s 409) (s 410) (s 411) (s 413) (s 414) o → ST D n (s 409) (s 410) (s' 411) (s 413) (s 414) o') : RI c0 o' s' := by
  refine ⟨k.sg h.1, ?_⟩
  have kb := k.b4
  obtain ⟨k1, k2, k3, k4, k5, k6, k7, k8⟩ := k
  obtain ⟨D, n, e1, e2, e3, e4, e5, e6, e7, e8, e9, e10⟩ := h.2
  refine ⟨D, n, g41.trans e1, g44.trans e2, g42.trans e3, e4, ?_, ?_, e7, ?_, ?_, ?_⟩
  · rw [a409, a410, a413, a414]; exact hst D n e1 e5
  · rw [k7]; exact e6
  · rw [g34]; exact e8
  · rw [g34, k3]; exact e9
  · intro hk
    rw [k6] at hk
    obtain ⟨b1, b2, h, b3, b4⟩ := e10 hk
    rw [kb, a409, a412, a414, a407, k7, g34]
    exact ⟨b1, b2, h, b3, by omega⟩
/-- a fault more: what holds without one needn't hold any longer -/
theorem RI.blame {c0 o o' : Int} {s s' : zF} (h : RI c0 o s) (hs : SG s') (g4 : s' 386 4 = s 386 4) (g35 : s' 386 35 = s 386 35) (g41 : s' 386 41 = s 386 41) (g44 : s' 386 44 = s 386 44) (g42 : s' 386 42 = s 386 42) (g34 : s' 386 34 = s 386 34)
    (a409 : s' 409 = s 409) (a410 : s' 410 = s 410) (a413 : s' 413 = s 413) (a414 : s' 414 = s 414) (hk : 1 ≤ s' 386 8)
    (hst : ∀ D n : Nat, s 386 41 = D → ST D n (s 409) (s 410) (s 411) (s 413) (s 414) o → ST D n (s 409) (s 410) (s' 411) (s 413) (s 414) o') : RI c0 o' s' := by
  refine ⟨hs, ?_⟩
  obtain ⟨D, n, e1, e2, e3, e4, e5, e6, e7, e8, e9, e10⟩ := h.2
  refine ⟨D, n, g41.trans e1, g44.trans e2, g42.trans e3, e4, ?_, ?_, e7, ?_, ?_, ?_⟩
  · rw [a409, a410, a413, a414]
    exact hst D n e1 e5
  · rw [g35]; exact e6
  · rw [g34]; exact e8
  · rw [g34, g4]; exact e9
  · intro z
    omega
/-- the sign is used up -/
theorem zcons {s g g' : zF} (k : KS s g) (hs : SG s) (h1 : 1 ≤ s 386 3) (a : AP g g') : s 386 4 + 1 ≤ g' 386 4 ∧ zB4 s ≤ zB4 g' := by
  obtain ⟨k1, k2, k3, k4, k5, k6, k7, k8⟩ := k
  obtain ⟨a1, a2, a3, a4, a5⟩ := a
  have h2 := hs
  unfold SG at h2
  have h3 : s 386 4 + 1 ≤ g' 386 4 := by omega
  refine ⟨h3, ?_⟩
  unfold zB4
  split <;> split <;> omega
/-- a NOT is used up: four bytes -/
theorem zcons4 {s g g' : zF} (k : KS s g) (hs : SG s) (h1 : s 386 3 = 1) (hw : 65536 ≤ s 386 7) (a : AP g g') (hk : g' 386 8 = 0) : zB4 s + 4 ≤ zB4 g' := by
  obtain ⟨k1, k2, k3, k4, k5, k6, k7, k8⟩ := k
  obtain ⟨a1, a2, a3, a4, a5⟩ := a
  have h2 := hs
  unfold SG at h2
  obtain ⟨c1, c2, c3, c4, c5, c6, c7, c8, c9, c10⟩ := h2
  obtain ⟨d1, d2⟩ := c9 h1
  have d3 := d2 hw
  unfold zB4
  rw [if_pos h1]
  split
  · rename_i q
    have h5 := a5 hk q (by omega)
    rw [k8] at h5
    have h6 : g' 386 4 ≠ s 386 5 := by
      intro z
      rw [z] at h5
      exact h5 d1
    omega
  · omega
def addF (s : zF) (x y : Int) : zF := zup (zup (zup s 407 (1600 * s 386 35 + s 386 34).toNat x) 408 (1600 * s 386 35 + s 386 34).toNat y) 386 34 (s 386 34 + 1)
def hbF (s : zF) (x : Int) : zF := zup (zup s 414 (s 386 44).toNat x) 386 44 (s 386 44 + 1)
def puF (s : zF) (k : Int) : zF := zup (zup (zup (zup (zup s 409 (s 386 41).toNat k) 410 (s 386 41).toNat 0) 411 (s 386 41).toNat 1) 413 (s 386 41).toNat (s 386 44)) 386 41 (s 386 41 + 1)
/-- one more code -/
theorem zH_add {s : zF} {c0 h : Int} {x : Int} (hin : s 386 35 = 0 ∨ s 386 35 = 1) (h0 : 0 ≤ c0) (h1 : c0 ≤ s 386 34) (e : zH (s 407) (1600 * s 386 35 + c0).toNat (s 386 34 - c0).toNat = some h) :
    zH (zup1 (s 407) (1600 * s 386 35 + s 386 34).toNat x) (1600 * s 386 35 + c0).toNat (s 386 34 + 1 - c0).toNat = if x ≤ 9 then some (h + 1) else if x = 22 then (if 1 ≤ h then some h else none) else if 2 ≤ h then some (h - 1) else none := by
  have e1 : (s 386 34 + 1 - c0).toNat = (s 386 34 - c0).toNat + 1 := by omega
  have e2 : zH (zup1 (s 407) (1600 * s 386 35 + s 386 34).toNat x) (1600 * s 386 35 + c0).toNat (s 386 34 - c0).toNat = some h := by
    rw [← e]
    exact zH_congr (fun i hi => zup1_ne (by omega))
  have e3 : (1600 * s 386 35 + c0).toNat + (s 386 34 - c0).toNat = (1600 * s 386 35 + s 386 34).toNat := by omega
  rw [e1, zH_s e2, e3, zup1_eq]
theorem CS_add {c0 : Int} {s : zF} {x : Int} (hin : s 386 35 = 0 ∨ s 386 35 = 1) (h0 : 0 ≤ c0) (h1 : c0 ≤ s 386 34) (h2 : s 386 34 ≤ 1599) {s' : zF} (e : s' 407 = zup1 (s 407) (1600 * s 386 35 + s 386 34).toNat x) : CS c0 s s' := by
  intro p hp
  rw [e, zup1_ne]
  omega
theorem RI.n {c0 o : Int} {s : zF} (h : RI c0 o s) (hk : s 386 8 = 0) : 0 ≤ s 386 44 ∧ s 386 44 ≤ 499 ∧ 1 ≤ s 386 41 ∧ s 386 41 ≤ 9 := by
  obtain ⟨D, n, e1, e2, e3, e4, e5, e6, e7, e8, e9, e10⟩ := h.2
  have h2 := h.1
  unfold SG at h2
  obtain ⟨b1, -⟩ := e10 hk
  have h3 := e5.top
  have h4 := e5.1
  have h5 : zB4 s ≤ s 386 4 + 1 := by unfold zB4; split <;> omega
  omega
theorem RI.dn {c0 o : Int} {s : zF} (h : RI c0 o s) : 1 ≤ s 386 41 ∧ s 386 41 ≤ 9 ∧ s 386 42 = s 386 41 - 1 ∧ 0 ≤ s 386 34 ∧ s 386 34 + s 386 44 + s 386 42 ≤ s 386 4 ∧ 0 ≤ s 386 44 := by
  obtain ⟨D, n, e1, e2, e3, e4, e5, e6, e7, e8, e9, e10⟩ := h.2
  have h4 := e5.1
  omega
