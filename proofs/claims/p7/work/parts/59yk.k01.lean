/-! the FAULT's two numbers stay, as long as all goes well -/
def K01 (s g : zF) : Prop := g 2 0 = s 2 0 ∧ g 2 1 = s 2 1
theorem K01_refl {s : zF} : K01 s s := ⟨rfl, rfl⟩
theorem K01_trans {s g h : zF} (a : K01 s g) (b : K01 g h) : K01 s h := ⟨b.1.trans a.1, b.2.trans a.2⟩
theorem K01_fr {R : zRL} {s g : zF} (h : zFr R s g) (n : (zNS R 2 0 && zNS R 2 1) = true) : K01 s g := by
  rw [Bool.and_eq_true] at n
  exact ⟨h.s n.1, h.s n.2⟩
theorem K01_st {s : zF} {a k : Nat} {v : Int} (h : a ≠ 2 ∨ 1 < k) : K01 s (zup s a k v) := ⟨zup_ne (by omega), zup_ne (by omega)⟩
/-- the reference: nothing is blamed, so no place is told -/
def K89 (s g : zF) : Prop := g 386 8 = 0 → s 386 8 = 0 ∧ g 386 9 = s 386 9
theorem K89_refl {s : zF} : K89 s s := fun h => ⟨h, rfl⟩
theorem K89_trans {s g h : zF} (a : K89 s g) (b : K89 g h) : K89 s h := fun z => by
  obtain ⟨b1, b2⟩ := b z
  obtain ⟨a1, a2⟩ := a b1
  exact ⟨a1, b2.trans a2⟩
theorem K89_fr {R : zRL} {s g : zF} (h : zFr R s g) (n : (zNS R 386 8 && zNS R 386 9) = true) : K89 s g := by
  rw [Bool.and_eq_true] at n
  intro z
  rw [h.s n.1] at z
  exact ⟨z, h.s n.2⟩
theorem K89_st {s : zF} {a k : Nat} {v : Int} (h : a ≠ 386 ∨ 9 < k ∨ k < 8) : K89 s (zup s a k v) := fun z => by
  rw [zup_ne (by omega)] at z
  exact ⟨z, zup_ne (by omega)⟩
/-- a FAULT is blamed -/
theorem K89_bl {s g : zF} {v : Int} (h : v ≠ 0) (q : g 386 8 = v) : K89 s g := fun z => absurd (q.symm.trans z) h
