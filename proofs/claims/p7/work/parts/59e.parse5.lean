/-! the reference's reader of SUMS and TESTS: forms in which its methods use the steps -/
theorem SG.sz {s : zF} (h : SG s) : 0 ≤ s 386 2 ∧ s 386 2 ≤ 1600 ∧ 0 ≤ s 386 4 ∧ s 386 4 ≤ s 386 5 ∧ s 386 5 ≤ s 386 2 ∧ 0 ≤ s 386 3 ∧ s 386 3 ≤ 3 ∧ 0 ≤ s 386 8 ∧ s 386 8 ≤ 5 := by
  obtain ⟨a1, a2, a3, a4, a5, a6, a7, a8, a9, a10, a11⟩ := h
  exact ⟨a1, a2, a3, a4, a5, a6, a7, a10, a11⟩
theorem SG.lt {s : zF} (h : SG s) (h1 : 1 ≤ s 386 3) : s 386 4 < s 386 5 := h.2.2.2.2.2.2.2.1 h1
theorem RI.d2 {c0 o : Int} {s : zF} (h : RI c0 o s) (hf : 2 ≤ s 409 (s 386 41 - 1).toNat) : 2 ≤ s 386 41 := by
  obtain ⟨D, n, e1, e2, e3, e4, e5, -⟩ := h.2
  have hD := e5.1
  by_cases z : D = 1
  · have := e5.2.1
    rw [show (s 386 41 - 1).toNat = 0 by omega] at hf
    omega
  · omega
theorem T_opndA {c0 x y : Int} {s g3 : zF} (hs : RI c0 0 s) (hk : s 386 8 = 0) (h3 : 1 ≤ s 386 3) (hx : x ≤ 9)
    (a : AP (zup (addF (zup s 411 (s 386 41 - 1).toNat 0) x y) 410 (s 386 41 - 1).toNat 2) g3) (f : zFr RA (zup (addF (zup s 411 (s 386 41 - 1).toNat 0) x y) 410 (s 386 41 - 1).toNat 2) g3) : OP c0 s 1 g3 := by
  refine T_opnd (g2 := zup (addF (zup s 411 (s 386 41 - 1).toNat 0) x y) 410 (s 386 41 - 1).toNat 2) hs hk h3 hx ⟨rfl, rfl, rfl, rfl, rfl, rfl, rfl, ?_⟩ rfl rfl rfl rfl ?_ ?_ (Or.inr ?_) ?_ ?_ ?_ ?_ a f
  · unfold addF
    rw [zup_na (by decide), zup_na (by decide), zup_na (by decide), zup_na (by decide), zup_na (by decide)]
  · unfold addF
    rw [zup_na (by decide), zup_na (by decide), zup_na (by decide), zup_app, if_pos rfl, zup_na (by decide)]
    rfl
  · unfold addF
    rw [zup_na (by decide), zup_na (by decide), zup_na (by decide), zup_na (by decide), zup_na (by decide)]
  · unfold addF
    rw [zup_app, if_pos rfl, zup_na (by decide), zup_na (by decide), zup_na (by decide), zup_na (by decide)]
  · unfold addF
    rw [zup_na (by decide), zup_na (by decide), zup_na (by decide), zup_na (by decide), zup_app, if_pos rfl]
  · unfold addF
    rw [zup_na (by decide), zup_na (by decide), zup_na (by decide), zup_na (by decide), zup_na (by decide)]
  · unfold addF
    rw [zup_na (by decide), zup_na (by decide), zup_na (by decide), zup_na (by decide), zup_na (by decide)]
  · unfold addF
    rw [zup_na (by decide), zup_na (by decide), zup_na (by decide), zup_na (by decide), zup_na (by decide)]
theorem T_opndB {c0 x y : Int} {s g3 : zF} (hs : RI c0 0 s) (hk : s 386 8 = 0) (h3 : 1 ≤ s 386 3) (hx : x ≤ 9)
    (a : AP (addF (zup s 411 (s 386 41 - 1).toNat 0) x y) g3) (f : zFr RA (addF (zup s 411 (s 386 41 - 1).toNat 0) x y) g3) : OP c0 s 1 g3 := by
  refine T_opnd (g2 := addF (zup s 411 (s 386 41 - 1).toNat 0) x y) hs hk h3 hx ⟨rfl, rfl, rfl, rfl, rfl, rfl, rfl, ?_⟩ rfl rfl rfl rfl ?_ ?_ (Or.inl ?_) ?_ ?_ ?_ ?_ a f
  · unfold addF
    rw [zup_na (by decide), zup_na (by decide), zup_na (by decide), zup_na (by decide)]
  · unfold addF
    rw [zup_na (by decide), zup_na (by decide), zup_app, if_pos rfl, zup_na (by decide)]
    rfl
  · unfold addF
    rw [zup_na (by decide), zup_na (by decide), zup_na (by decide), zup_na (by decide)]
  · unfold addF
    rw [zup_na (by decide), zup_na (by decide), zup_na (by decide), zup_na (by decide)]
  · unfold addF
    rw [zup_na (by decide), zup_na (by decide), zup_na (by decide), zup_app, if_pos rfl]
  · unfold addF
    rw [zup_na (by decide), zup_na (by decide), zup_na (by decide), zup_na (by decide)]
  · unfold addF
    rw [zup_na (by decide), zup_na (by decide), zup_na (by decide), zup_na (by decide)]
  · unfold addF
    rw [zup_na (by decide), zup_na (by decide), zup_na (by decide), zup_na (by decide)]
theorem T_mm {c0 : Int} {s g1 : zF} (hs : RI c0 0 s) (h3 : s 386 3 = 1) (a : AP (zup s 411 (s 386 41 - 1).toNat 0) g1) (f : zFr RA (zup s 411 (s 386 41 - 1).toNat 0) g1) :
    RI c0 0 g1 ∧ CS c0 s g1 ∧ PG s g1 ∧ PW s g1 ∧ g1 411 (g1 386 41 - 1).toNat ≠ 1 := by
  have kk : KS s (zup s 411 (s 386 41 - 1).toNat 0) := ⟨rfl, rfl, rfl, rfl, rfl, rfl, rfl, zup_na (by decide)⟩
  have hr : RI c0 0 (zup s 411 (s 386 41 - 1).toNat 0) := zbgF hs (Int.le_refl _)
  have hc := zcons kk hs.1 (by omega) a
  have hz := hs.1.sz
  have k8 : (zup s 411 (s 386 41 - 1).toNat 0) 386 8 = s 386 8 := rfl
  have k4 : (zup s 411 (s 386 41 - 1).toNat 0) 386 4 = s 386 4 := rfl
  have k41 : (zup s 411 (s 386 41 - 1).toNat 0) 386 41 = s 386 41 := rfl
  have g41 : g1 386 41 = (zup s 411 (s 386 41 - 1).toNat 0) 386 41 := f.s (by decide)
  have a411 : g1 411 = (zup s 411 (s 386 41 - 1).toNat 0) 411 := f.a (by decide)
  refine ⟨RI.of hr.2 a f (by omega) (by omega) (fun _ => by rw [kk.b4]; omega), CS.refl.of ((zfa f).1.trans (zup_na (by decide))), a.pg kk hs.1 (by omega), a.pw kk hs.1, ?_⟩
  rw [g41, a411, k41]
  rw [zup_eq]
  decide
theorem T_mmB {c0 x : Int} {s g : zF} (m1 : RI c0 0 g) (m2 : CS c0 s g) (m3 : PG s g) (m4 : PW s g) (m5 : g 411 (g 386 41 - 1).toNat ≠ 1) (hk : g 386 8 = 0) (h0 : s 386 8 ≤ 1) :
    RI c0 0 (blF g 1 x) ∧ CS c0 s (blF g 1 x) ∧ PG s (blF g 1 x) ∧ PW s (blF g 1 x) ∧ (blF g 1 x) 411 ((blF g 1 x) 386 41 - 1).toNat ≠ 1 := by
  obtain ⟨p1, p2, p3, p4⟩ := m4
  exact ⟨blF_ri m1 (by decide) (by decide) (Or.inl rfl), m2.of rfl, ⟨p1, h0, p3, Or.inl (by show (1 : Int) ≤ 1; decide)⟩, ⟨p1, h0, p3, p4⟩, m5⟩
theorem T_pair {c0 p : Int} {s g g1 : zF} (h : OpP c0 3 g g1) (m2 : CS c0 s g) (m4 : PW s g) (h35 : g 386 35 = s 386 35) (p1 : 15 ≤ p) (p2 : p ≤ 16) : OP c0 s 0 (zup g1 412 (g1 386 41 - 1).toNat p) := by
  obtain ⟨a1, a2, a3, a4, a5, a6, a7⟩ := h
  obtain ⟨b1, b2, b3, b4⟩ := m4
  obtain ⟨c1, c2, c3, c4⟩ := a2
  obtain ⟨d1, d2, d3, d4⟩ := a3
  refine ⟨(a7 rfl).2 p p1 p2, (m2.trans h35 a1).of (zup_na (by decide)), ⟨c1.trans b1, Int.le_trans b2 c2, Int.le_trans b3 c3, ?_⟩, ⟨c1.trans b1, Int.le_trans b2 c2, Int.le_trans b3 c3, ?_⟩⟩
  · show 1 ≤ g1 386 8 ∨ 4 * (g1 386 2 - g1 386 5) + g1 386 3 + 1 ≤ _
    omega
  · show 4 * (g1 386 2 - g1 386 5) + g1 386 3 ≤ _
    omega
theorem T_pairF {c0 : Int} {s g g1 : zF} (h : OpP c0 3 g g1) (m2 : CS c0 s g) (m4 : PW s g) (h35 : g 386 35 = s 386 35) (hk : 1 ≤ g1 386 8) : OP c0 s 0 g1 := by
  obtain ⟨a1, a2, a3, a4, a5, a6, a7⟩ := h
  obtain ⟨b1, b2, b3, b4⟩ := m4
  obtain ⟨c1, c2, c3, c4⟩ := a2
  obtain ⟨d1, d2, d3, d4⟩ := a3
  exact ⟨(a7 rfl).1 hk, m2.trans h35 a1, ⟨c1.trans b1, Int.le_trans b2 c2, Int.le_trans b3 c3, Or.inl hk⟩, ⟨c1.trans b1, Int.le_trans b2 c2, Int.le_trans b3 c3, by omega⟩⟩
theorem T_closeN {c0 : Int} {s g1 g3 : zF} (hs : RI c0 1 s) (hk : s 386 8 = 0) (h3 : 1 ≤ s 386 3) (f1 : zFr RJ s g1) (j : JP c0 s 1 g1) (hfr : 2 ≤ s 409 (s 386 41 - 1).toNat) (h4 : s 409 (s 386 41 - 1).toNat ≠ 4) (h45 : s 386 45 = 1)
    (a : AP (zup (zup g1 386 41 (s 386 41 - 1)) 386 42 (g1 386 42 - 1)) g3) (f : zFr RA (zup (zup g1 386 41 (s 386 41 - 1)) 386 42 (g1 386 42 - 1)) g3) : GP c0 s 1 g3 := by
  refine T_close (p := g1 410 (s 386 41 - 2).toNat) hs hk h3 f1 j hfr (g2 := zup (zup g1 386 41 (s 386 41 - 1)) 386 42 (g1 386 42 - 1)) ⟨rfl, rfl, rfl, rfl, rfl, rfl, rfl, rfl⟩ rfl rfl rfl rfl h45 rfl ?_ (Or.inl rfl) rfl rfl rfl rfl (Or.inl ⟨h4, rfl, rfl⟩) a f
  exact zup1_self.symm
theorem T_close5 {c0 : Int} {s g1 g3 : zF} (hs : RI c0 1 s) (hk : s 386 8 = 0) (h3 : 1 ≤ s 386 3) (f1 : zFr RJ s g1) (j : JP c0 s 1 g1) (hfr : s 409 (s 386 41 - 1).toNat = 5) (h45 : s 386 45 = 1)
    (a : AP (zup (zup (zup g1 386 41 (s 386 41 - 1)) 386 42 (g1 386 42 - 1)) 410 (s 386 41 - 2).toNat 2) g3) (f : zFr RA (zup (zup (zup g1 386 41 (s 386 41 - 1)) 386 42 (g1 386 42 - 1)) 410 (s 386 41 - 2).toNat 2) g3) : GP c0 s 1 g3 := by
  refine T_close (p := 2) hs hk h3 f1 j (by omega) (g2 := zup (zup (zup g1 386 41 (s 386 41 - 1)) 386 42 (g1 386 42 - 1)) 410 (s 386 41 - 2).toNat 2) ⟨rfl, rfl, rfl, rfl, rfl, rfl, rfl, rfl⟩ rfl rfl rfl rfl h45 rfl ?_ (Or.inr (by decide)) rfl rfl rfl rfl (Or.inl ⟨by omega, rfl, rfl⟩) a f
  rw [zup_app, if_pos rfl]
  rfl
theorem T_closeA {c0 : Int} {s g1 g3 : zF} (hs : RI c0 1 s) (hk : s 386 8 = 0) (h3 : 1 ≤ s 386 3) (f1 : zFr RJ s g1) (j : JP c0 s 1 g1) (hfr : s 409 (s 386 41 - 1).toNat = 4) (h45 : s 386 45 = 1)
    (a : AP (addF (zup (zup g1 386 41 (s 386 41 - 1)) 386 42 (g1 386 42 - 1)) (s 412 (s 386 41 - 1).toNat) 0) g3) (f : zFr RA (addF (zup (zup g1 386 41 (s 386 41 - 1)) 386 42 (g1 386 42 - 1)) (s 412 (s 386 41 - 1).toNat) 0) g3) : GP c0 s 1 g3 := by
  refine T_close (p := g1 410 (s 386 41 - 2).toNat) hs hk h3 f1 j (by omega) (g2 := addF (zup (zup g1 386 41 (s 386 41 - 1)) 386 42 (g1 386 42 - 1)) (s 412 (s 386 41 - 1).toNat) 0) ⟨rfl, rfl, rfl, rfl, rfl, rfl, rfl, ?_⟩ rfl rfl rfl rfl h45 ?_ ?_ (Or.inl rfl) ?_ ?_ ?_ ?_ (Or.inr ⟨hfr, rfl, ?_⟩) a f
  · unfold addF
    rw [zup_na (by decide), zup_na (by decide), zup_na (by decide), zup_na (by decide), zup_na (by decide)]
  · unfold addF
    rw [zup_na (by decide), zup_na (by decide), zup_na (by decide), zup_na (by decide), zup_na (by decide)]
  · unfold addF
    rw [zup_na (by decide), zup_na (by decide), zup_na (by decide), zup_na (by decide), zup_na (by decide)]
    exact zup1_self.symm
  · unfold addF
    rw [zup_na (by decide), zup_na (by decide), zup_na (by decide), zup_na (by decide), zup_na (by decide)]
  · unfold addF
    rw [zup_na (by decide), zup_na (by decide), zup_na (by decide), zup_na (by decide), zup_na (by decide)]
  · unfold addF
    rw [zup_na (by decide), zup_na (by decide), zup_na (by decide), zup_na (by decide), zup_na (by decide)]
  · unfold addF
    rw [zup_na (by decide), zup_na (by decide), zup_na (by decide), zup_na (by decide), zup_na (by decide)]
  · unfold addF
    rw [zup_na (by decide), zup_na (by decide), zup_app, if_pos rfl, zup_na (by decide), zup_na (by decide)]
    rfl
/-- what reads comes to -/
def RP (s s' : zF) : Prop := SG s' ∧ PW s s' ∧ s 386 34 ≤ s' 386 34 ∧ s' 386 34 ≤ s' 386 4 ∧ CS (s 386 34) s s' ∧ (s' 386 8 = 0 → zH (s' 407) (1600 * s 386 35 + s 386 34).toNat (s' 386 34 - s 386 34).toNat ≠ none)
theorem PW.trans {s s' s'' : zF} (h : PW s s') (h' : PW s' s'') : PW s s'' := by
  obtain ⟨b1, b2, b3, b4⟩ := h
  obtain ⟨d1, d2, d3, d4⟩ := h'
  exact ⟨d1.trans b1, Int.le_trans b2 d2, Int.le_trans b3 d3, Int.le_trans d4 b4⟩
theorem PW.refl {s : zF} : PW s s := ⟨rfl, Int.le_refl _, Int.le_refl _, Int.le_refl _⟩
def zMs (s : zF) : Int := 4 * (s 386 2 - s 386 5) + s 386 3
theorem SG.ms {s : zF} (h : SG s) : 0 ≤ zMs s := by
  have := h.sz
  unfold zMs
  omega
theorem T_rend {s g : zF} {o : Int} (hs : SG s) (h : RI (s 386 34) o g) (hc : CS (s 386 34) s g) (hp : PW s g) (h35 : g 386 35 = s 386 35) (ho : 0 ≤ o) : RP s g := by
  obtain ⟨D, n, e1, e2, e3, e4, e5, e6, e7, e8, e9, e10⟩ := h.2
  have hD := e5.1
  refine ⟨h.1, hp, e8, by omega, hc, fun hk => ?_⟩
  obtain ⟨b1, b2, hh, b3, b4⟩ := e10 hk
  rw [← h35, b3]
  intro z
  cases z
theorem T_rbeg {s g : zF} {k : Int} (hs : SG s) (hk0 : s 386 8 = 0) (hin : s 386 35 = 0 ∨ s 386 35 = 1) (hc : 0 ≤ s 386 34) (hc2 : s 386 34 ≤ s 386 4) (hk : k = 0 ∨ k = 1)
    (e : g = puF (zup (zup (zup (zup s 386 41 0) 386 42 0) 386 44 0) 386 45 0) k) : RI (s 386 34) (g 386 45) g ∧ CS (s 386 34) s g ∧ PW s g ∧ g 386 8 = 0 ∧ g 386 45 = 0 := by
  subst e
  have kk : KS s (puF (zup (zup (zup (zup s 386 41 0) 386 42 0) 386 44 0) 386 45 0) k) := ⟨rfl, rfl, rfl, rfl, rfl, rfl, rfl, rfl⟩
  refine ⟨⟨kk.sg hs, 1, 0, rfl, rfl, rfl, by decide, ?_, hin, hc, Int.le_refl _, ?_, fun _ => ?_⟩, fun p _ => rfl, ⟨rfl, Int.le_refl _, Int.le_refl _, Int.le_refl _⟩, hk0, rfl⟩
  · rw [puF_409, puF_410, puF_411, puF_413]
    refine ⟨by decide, ?_, ?_, ?_, ?_, ?_, ?_, ?_, fun z => absurd (show (0 : Int) = 1 from z) (by decide), fun i hi => absurd hi (by omega)⟩
    · show zup1 (s 409) 0 k 0 ≤ 1
      rw [zup1_eq]
      omega
    · intro f f' h1 h2
      rw [show f = 0 by omega, show f' = 0 by omega]
      exact Int.le_refl _
    · exact Int.le_refl _
    · exact Int.le_refl _
    · intro f hf
      rw [show f = 0 by omega]
      exact Int.le_refl _
    · intro f i hf hi hE
      unfold zE2 at hE
      rw [if_neg (by omega)] at hE
      omega
    · intro f hf
      omega
  · show s 386 34 + ((0 : Nat) : Int) + (((1 : Nat) : Int) - 1) ≤ s 386 4
    omega
  · refine ⟨?_, fun f hf hq => ?_, 0, ?_, ?_⟩
    · rw [kk.b4]
      have := hs.sz
      unfold zB4
      show 4 * (((0 : Nat) : Int) - 0) ≤ _
      split <;> omega
    · rw [puF_409, show f = 0 by omega] at hq
      have e1 : zup1 (zup (zup (zup (zup s 386 41 0) 386 42 0) 386 44 0) 386 45 0 409) 0 k 0 = k := zup1_eq
      have hq2 : zup1 (zup (zup (zup (zup s 386 41 0) 386 42 0) 386 44 0) 386 45 0 409) 0 k 0 = 3 ∨ zup1 (zup (zup (zup (zup s 386 41 0) 386 42 0) 386 44 0) 386 45 0 409) 0 k 0 = 4 := hq
      rw [e1] at hq2
      omega
    · show zH _ _ (s 386 34 - s 386 34).toNat = some 0
      rw [Int.sub_self]
      rfl
    · rw [puF_409]
      have e1 : c4 (zup1 (s 409) 0 k) 1 = 0 := by
        rw [c4_s, zup1_eq, if_neg (by omega)]
        rfl
      show (0 : Int) + c4 (zup1 (s 409) 0 k) 1 + 0 ≤ 0
      omega
