/-! what joins does, one operator after another -/
theorem SG.ap {s : zF} (h : SG s) : 0 ≤ s 386 5 ∧ s 386 5 ≤ s 386 2 ∧ s 386 2 ≤ 1600 ∧ 0 ≤ s 386 8 ∧ s 386 8 ≤ 5 := by
  unfold SG at h
  omega
theorem JP_top {c0 r : Int} {s g : zF} (hr : RI c0 1 g) (hc : CS c0 s g) (h : g 413 (g 386 41 - 1).toNat < g 386 44 → rk (g 414 (g 386 44 - 1).toNat) < r) : JP c0 s r g := by
  refine ⟨hr, hc, fun i h1 h2 => ?_⟩
  obtain ⟨D, n, e1, e2, e3, e4, e5, -⟩ := hr.2
  have hD := e5.1
  have eD : (g 386 41 - 1).toNat = D - 1 := by omega
  have h3 := h (by omega)
  rw [eD] at h1
  have eN : (g 386 44 - 1).toNat = n - 1 := by omega
  rw [eN] at h3
  by_cases q : i = n - 1
  · rw [q]; exact h3
  · have := (e5.2.2.2.2.2.2.1 (D - 1) (n - 1) (by omega) (by omega) (by unfold zE2; rw [if_neg (by omega)]; omega)).2.1 i h1 (by omega)
    omega
theorem J_pop {c0 : Int} {g g' : zF} (hr : RI c0 1 g) (hk : g 386 8 = 0) (hb : g 413 (g 386 41 - 1).toNat < g 386 44)
    (e : g' = addF (zup g 386 44 (g 386 44 - 1)) (g 414 (g 386 44 - 1).toNat) 0) : RI c0 1 g' ∧ CS c0 g g' := by
  subst e
  have hsg := hr.1
  unfold SG at hsg
  have k : KS g (addF (zup g 386 44 (g 386 44 - 1)) (g 414 (g 386 44 - 1).toNat) 0) := ⟨rfl, rfl, rfl, rfl, rfl, rfl, rfl, rfl⟩
  have a407 : (addF (zup g 386 44 (g 386 44 - 1)) (g 414 (g 386 44 - 1).toNat) 0) 407 = zup1 (g 407) (1600 * g 386 35 + g 386 34).toNat (g 414 (g 386 44 - 1).toNat) := by
    unfold addF
    rw [zup_app, if_neg (by decide), zup_app, if_neg (by decide), zup_app, if_pos rfl]
    rfl
  have hd := hr.dn
  obtain ⟨D, n, e1, e2, e3, e4, e5, e6, e7, e8, e9, e10⟩ := hr.2
  have hD := e5.1
  have eD : (g 386 41 - 1).toNat = D - 1 := by omega
  rw [eD] at hb
  obtain ⟨m, rfl⟩ : ∃ m, n = m + 1 := ⟨n - 1, by
    have h5 := e5.2.2.2.2.1
    have h6 := e5.2.2.1 0 (D - 1) (by omega) (by omega)
    omega⟩
  have eN : (g 386 44 - 1).toNat = m := by omega
  rw [eN] at a407 ⊢
  have hx := e5.2.2.2.2.2.2.2.2.2 m (by omega)
  have hcb : cb (g 414) (m + 1) = cb (g 414) m + if g 414 m = 22 then 0 else 1 := cb_s
  have hcb0 := (cb_b (op := g 414) m).1
  have hc40 := c4_b (fr := g 409) D
  obtain ⟨b1, b2, h, b3, b4⟩ := e10 hk
  have hadd := zH_add (x := g 414 m) e6 e7 e8 b3
  rw [if_neg (by omega)] at hadd
  rw [eN] at k
  refine ⟨⟨k.sg hr.1, D, m, e1, by show g 386 44 - 1 = _; omega, e3, e4, e5.pop (by omega), e6, e7, by show c0 ≤ g 386 34 + 1; omega, by show g 386 34 + 1 + _ + _ ≤ g 386 4; omega, fun _ => ?_⟩, CS_add e6 e7 e8 (by omega) a407⟩
  have kb := k.b4
  rw [kb]
  rw [a407]
  by_cases q : g 414 m = 22
  · rw [if_pos q] at hcb
    rw [if_pos q, if_pos (by omega)] at hadd
    refine ⟨?_, b2, h, hadd, ?_⟩
    · show 4 * ((m : Int) - cb (g 414) m) ≤ _
      omega
    · show cb (g 414) m + c4 (g 409) D + 1 ≤ h
      omega
  · rw [if_neg q] at hcb
    rw [if_neg q, if_pos (by omega)] at hadd
    refine ⟨?_, b2, h - 1, hadd, ?_⟩
    · show 4 * ((m : Int) - cb (g 414) m) ≤ _
      omega
    · show cb (g 414) m + c4 (g 409) D + 1 ≤ h - 1
      omega
