/-! the reference's reader of SUMS and TESTS: its steps, put together -/
def JP (c0 : Int) (s : zF) (r : Int) (s' : zF) : Prop := RI c0 1 s' ∧ CS c0 s s' ∧ ∀ i : Nat, s' 413 (s' 386 41 - 1).toNat ≤ i → (i : Int) < s' 386 44 → rk (s' 414 i) < r
theorem JP.ks {s s' : zF} (f : zFr RJ s s') : KS s s' := ⟨f.s (by decide), f.s (by decide), f.s (by decide), f.s (by decide), f.s (by decide), f.s (by decide), f.s (by decide), f.a (by decide)⟩
/-- an operator is held back -/
theorem QI.push {c0 A B x p b o : Int} {s s' : zF} (h : QI c0 1 A B s) (hin : s' 386 35 = s 386 35) (g41 : s' 386 41 = s 386 41) (g44 : s' 386 44 = s 386 44 + 1) (g42 : s' 386 42 = s 386 42) (g34 : s' 386 34 = s 386 34) (g8 : s' 386 8 = s 386 8)
    (a407 : s' 407 = s 407) (a409 : s' 409 = s 409) (a410 : s' 410 = zup1 (s 410) (s 386 41 - 1).toNat p) (a411 : s' 411 = zup1 (s 411) (s 386 41 - 1).toNat b) (a412 : s' 412 = s 412) (a413 : s' 413 = s 413) (a414 : s' 414 = zup1 (s 414) (s 386 44).toNat x)
    (hx : 10 ≤ x) (hx2 : x ≠ 22) (hp : p = 0 → rk x ≠ 4 ∧ (p = s 410 (s 386 41 - 1).toNat ∨ rk x ≤ 3)) (hb : b = 1 → rk x ≤ 3)
    (ht : ∀ i : Nat, s 413 (s 386 41 - 1).toNat ≤ i → (i : Int) < s 386 44 → rk (s 414 i) < rk x) (ho : o = 0) : QI c0 o (A + 1) B s' := by
  subst ho
  obtain ⟨D, n, e1, e2, e3, e4, e5, e6, e7, e8, e9, e10⟩ := h
  have hD := e5.1
  have eD : (s 386 41 - 1).toNat = D - 1 := by omega
  have en : (s 386 44).toNat = n := by omega
  rw [eD] at a410 a411 ht hp
  rw [en] at a414
  have hseg := e5.2.2.2.2.2.2.1
  have hbs := e5.2.2.2.1
  have ht2 : ∀ i : Nat, s 413 (D - 1) ≤ i → i < n → rk (s 414 i) < rk x := fun i hi hin => ht i hi (by omega)
  refine ⟨D, n + 1, g41.trans e1, by omega, by omega, e4, ?_, by rw [hin]; exact e6, e7, by omega, by omega, ?_⟩
  · rw [a409, a410, a411, a413, a414]
    refine e5.push hx (fun i hi hin => Or.inl (ht2 i hi hin)) (fun z => ⟨(hp z).1, fun i hi hin => ?_⟩) (fun z => ⟨hb z, fun i hi hin => ?_⟩) (fun z => absurd z (by decide))
    · rcases (hp z).2 with q | q
      · exact (hseg (D - 1) i (by omega) hi (by unfold zE2; rw [if_neg (by omega)]; omega)).2.2.1 (q ▸ z)
      · have := ht2 i hi hin
        omega
    · have := ht2 i hi hin
      have := hb z
      omega
  · intro hk
    rw [g8] at hk
    obtain ⟨b1, b2, h, b3, b4⟩ := e10 hk
    have hcb : cb (zup1 (s 414) n x) (n + 1) = cb (s 414) n + 1 := by
      rw [cb_s, cb_congr (fun i hi => zup1_ne (by omega)), zup1_eq, if_neg hx2]
    rw [a409, a412, a414, a407, hin, g34, hcb]
    exact ⟨by omega, b2, h, b3, by omega⟩
theorem zf45 {c0 o v : Int} {s : zF} (h : RI c0 o s) : RI c0 o (zup s 386 45 v) := by
  refine h.keep ⟨rfl, rfl, rfl, rfl, rfl, rfl, rfl, ?_⟩ rfl rfl rfl rfl ?_ ?_ ?_ ?_ ?_ ?_ (Int.le_refl _) (fun D n _ z => ?_)
  · exact zup_na (by decide)
  · exact zup_na (by decide)
  · exact zup_na (by decide)
  · exact zup_na (by decide)
  · exact zup_na (by decide)
  · exact zup_na (by decide)
  · exact zup_na (by decide)
  · rw [zup_na (by decide : (411 : Nat) ≠ 386)]; exact z
theorem zPG45 {v : Int} {s s' : zF} (h : PG s s') : PG s (zup s' 386 45 v) := h
theorem zCS45 {c0 v : Int} {s s' : zF} (h : CS c0 s s') : CS c0 s (zup s' 386 45 v) := h
theorem zfa {s s' : zF} (f : zFr RA s s') : s' 407 = s 407 ∧ s' 386 35 = s 386 35 := ⟨f.a (by decide), f.s (by decide)⟩
/-- what goesOn and operand come to -/
def GP (c0 : Int) (s : zF) (v : Int) (s' : zF) : Prop := RI c0 (s' 386 45) s' ∧ CS c0 s s' ∧ s' 386 2 = s 386 2 ∧ s 386 8 ≤ s' 386 8 ∧ PW s s' ∧ (v = 1 → PG s s') ∧ (s' 386 45 = 0 ∨ s' 386 45 = 1)
def OP (c0 : Int) (s : zF) (v : Int) (s' : zF) : Prop := RI c0 v s' ∧ CS c0 s s' ∧ PG s s' ∧ PW s s'
theorem zpush_end {c0 r x p b : Int} {s g1 g2 g3 : zF} (hs : RI c0 1 s) (hk : s 386 8 = 0) (h3 : 1 ≤ s 386 3) (f1 : zFr RJ s g1) (j : JP c0 s r g1)
    (k : KS g1 g2) (g41 : g2 386 41 = g1 386 41) (g44 : g2 386 44 = g1 386 44 + 1) (g42 : g2 386 42 = g1 386 42) (g34 : g2 386 34 = g1 386 34)
    (a407 : g2 407 = g1 407) (a409 : g2 409 = g1 409) (a410 : g2 410 = zup1 (g1 410) (g1 386 41 - 1).toNat p) (a411 : g2 411 = zup1 (g1 411) (g1 386 41 - 1).toNat b) (a412 : g2 412 = g1 412) (a413 : g2 413 = g1 413) (a414 : g2 414 = zup1 (g1 414) (g1 386 44).toNat x)
    (hx : 10 ≤ x) (hx2 : x ≠ 22) (hr : r ≤ rk x) (hp : p = 0 → rk x ≠ 4 ∧ (p = g1 410 (g1 386 41 - 1).toNat ∨ rk x ≤ 3)) (hb : b = 1 → rk x ≤ 3)
    (a : AP g2 g3) (f : zFr RA g2 g3) : GP c0 s 1 (zup g3 386 45 0) := by
  have k1 := JP.ks f1
  have kk := k1.trans k
  have hc := zcons kk hs.1 h3 a
  have h35 : g1 386 35 = s 386 35 := k1.2.2.2.2.2.2.1
  have kA : zB4 g1 = zB4 s := k1.b4
  have h4 : g1 386 4 = s 386 4 := k1.2.2.1
  have h8 : g2 386 8 = s 386 8 := kk.2.2.2.2.2.1
  have q := QI.push (o := 0) j.1.2 k.2.2.2.2.2.2.1 g41 g44 g42 g34 k.2.2.2.2.2.1 a407 a409 a410 a411 a412 a413 a414 hx hx2 hp hb (fun i h1 h2 => by have := j.2.2 i h1 h2; omega) rfl
  have hr3 := RI.of q a f (by omega) (by omega) (fun _ => by omega)
  have hf := zfa f
  have hcs : CS c0 s g3 := j.2.1.of (hf.1.trans a407)
  have hpg := a.pg kk hs.1 h3
  exact ⟨zf45 hr3, zCS45 hcs, hpg.1, hpg.2.1, a.pw kk hs.1, fun _ => zPG45 hpg, Or.inl rfl⟩
theorem zbgs {s : zF} {k : Nat} : s 411 = zup1 (s 411) k (s 411 k) := zup1_self.symm
theorem zphs {s : zF} {k : Nat} : s 410 = zup1 (s 410) k (s 410 k) := zup1_self.symm
theorem hbF_414 {s : zF} {x : Int} : (hbF s x) 414 = zup1 (s 414) (s 386 44).toNat x := by
  unfold hbF
  rw [zup_app, if_neg (by decide), zup_app, if_pos rfl]
/-- + - * / % -/
theorem T_bin {c0 r x : Int} {s g1 g3 : zF} (hs : RI c0 1 s) (hk : s 386 8 = 0) (h3 : 1 ≤ s 386 3) (f1 : zFr RJ s g1) (j : JP c0 s r g1) (hr : rk x = r) (h5 : 5 ≤ r) (hx : 10 ≤ x)
    (a : AP (hbF g1 x) g3) (f : zFr RA (hbF g1 x) g3) : GP c0 s 1 (zup g3 386 45 0) := by
  have hbg : g1 411 (g1 386 41 - 1).toNat ≠ 1 := by
    obtain ⟨D, n, e1, e2, e3, e4, e5, -⟩ := j.1.2
    have := e5.2.2.2.2.2.2.2.2.1 rfl
    have hD := e5.1
    rw [show (g1 386 41 - 1).toNat = D - 1 by omega]
    exact this
  refine zpush_end hs hk h3 f1 j (g2 := hbF g1 x) (x := x) ⟨rfl, rfl, rfl, rfl, rfl, rfl, rfl, rfl⟩ rfl rfl rfl rfl rfl rfl zphs zbgs rfl rfl hbF_414 hx ?_ (by omega) (fun z => ⟨by omega, Or.inl rfl⟩) (fun z => absurd z hbg) a f
  intro z
  subst z
  have : rk 22 = 3 := by decide
  omega
/-- < > = -/
theorem T_cmp {c0 x : Int} {s g1 g3 : zF} (hs : RI c0 1 s) (hk : s 386 8 = 0) (h3 : 1 ≤ s 386 3) (f1 : zFr RJ s g1) (j : JP c0 s 5 g1) (hr : rk x = 4) (hx : 10 ≤ x) (hph : s 410 (s 386 41 - 1).toNat = 0)
    (a : AP (zup (hbF g1 x) 410 (s 386 41 - 1).toNat 1) g3) (f : zFr RA (zup (hbF g1 x) 410 (s 386 41 - 1).toNat 1) g3) : GP c0 s 1 (zup g3 386 45 0) := by
  have h41 : g1 386 41 = s 386 41 := f1.s (by decide)
  have h410 : g1 410 = s 410 := f1.a (by decide)
  have hbg : g1 411 (g1 386 41 - 1).toNat ≠ 1 := by
    obtain ⟨D, n, e1, e2, e3, e4, e5, -⟩ := j.1.2
    have := e5.2.2.2.2.2.2.2.2.1 rfl
    have hD := e5.1
    rw [show (g1 386 41 - 1).toNat = D - 1 by omega]
    exact this
  have j4 : JP c0 s 4 g1 := by
    refine ⟨j.1, j.2.1, fun i h1 h2 => ?_⟩
    have h6 := j.2.2 i h1 h2
    obtain ⟨D, n, e1, e2, e3, e4, e5, -⟩ := j.1.2
    have hD := e5.1
    have eD : (g1 386 41 - 1).toNat = D - 1 := by omega
    rw [eD] at h1
    have h7 := (e5.2.2.2.2.2.2.1 (D - 1) i (by omega) h1 (by unfold zE2; rw [if_neg (by omega)]; omega)).2.2.1 (by rw [h410, ← eD, h41]; exact hph)
    omega
  rw [← h41] at a f
  refine zpush_end hs hk h3 f1 j4 (g2 := zup (hbF g1 x) 410 (g1 386 41 - 1).toNat 1) (x := x) (p := 1) ⟨rfl, rfl, rfl, rfl, rfl, rfl, rfl, rfl⟩ rfl rfl rfl rfl rfl rfl ?_ zbgs rfl rfl ((zup_na (by decide)).trans hbF_414) hx ?_ (by omega) (fun z => absurd z (by decide)) (fun z => absurd z hbg) a f
  · rw [zup_app, if_pos rfl]; rfl
  · intro z
    subst z
    have : rk 22 = 3 := by decide
    omega
/-- and, or -/
theorem T_log {c0 x r : Int} {s g1 g3 : zF} (hs : RI c0 1 s) (hk : s 386 8 = 0) (h3 : 1 ≤ s 386 3) (f1 : zFr RJ s g1) (j : JP c0 s r g1) (hr : rk x = r) (hr2 : r ≤ 2) (hx : 10 ≤ x)
    (a : AP (zup (zup (hbF g1 x) 410 (s 386 41 - 1).toNat 0) 411 (s 386 41 - 1).toNat 1) g3) (f : zFr RA (zup (zup (hbF g1 x) 410 (s 386 41 - 1).toNat 0) 411 (s 386 41 - 1).toNat 1) g3) : GP c0 s 1 (zup g3 386 45 0) := by
  have h41 : g1 386 41 = s 386 41 := f1.s (by decide)
  rw [← h41] at a f
  refine zpush_end hs hk h3 f1 j (g2 := zup (zup (hbF g1 x) 410 (g1 386 41 - 1).toNat 0) 411 (g1 386 41 - 1).toNat 1) (x := x) (p := 0) (b := 1) ⟨rfl, rfl, rfl, rfl, rfl, rfl, rfl, rfl⟩ rfl rfl rfl rfl rfl rfl ?_ ?_ rfl rfl ((zup_na (by decide)).trans ((zup_na (by decide)).trans hbF_414)) hx ?_ (by omega) (fun _ => ⟨by omega, Or.inr (by omega)⟩) (fun _ => by omega) a f
  · rw [zup_app, if_neg (by decide), zup_app, if_pos rfl]; rfl
  · rw [zup_app, if_pos rfl, zup_app, if_neg (by decide)]; rfl
  · intro z
    subst z
    have : rk 22 = 3 := by decide
    omega
/-- the ',' of min, max -/
theorem T_comma {c0 : Int} {s g1 g3 : zF} (hs : RI c0 1 s) (hk : s 386 8 = 0) (h3 : 1 ≤ s 386 3) (f1 : zFr RJ s g1) (j : JP c0 s 1 g1) (hfr : s 409 (s 386 41 - 1).toNat = 3)
    (a : AP (zup g1 409 (s 386 41 - 1).toNat 4) g3) (f : zFr RA (zup g1 409 (s 386 41 - 1).toNat 4) g3) : GP c0 s 1 (zup g3 386 45 0) := by
  have k1 := JP.ks f1
  have h41 : g1 386 41 = s 386 41 := f1.s (by decide)
  have h409 : g1 409 = s 409 := f1.a (by decide)
  have kk : KS s (zup g1 409 (s 386 41 - 1).toNat 4) := k1.trans ⟨rfl, rfl, rfl, rfl, rfl, rfl, rfl, rfl⟩
  have hc := zcons kk hs.1 h3 a
  have h8 : g1 386 8 = s 386 8 := k1.2.2.2.2.2.1
  have kA : zB4 g1 = zB4 s := k1.b4
  have h4 : g1 386 4 = s 386 4 := k1.2.2.1
  have q : QI c0 0 (g1 386 4) (zB4 g1) (zup g1 409 (s 386 41 - 1).toNat 4) := by
    obtain ⟨D, n, e1, e2, e3, e4, e5, e6, e7, e8, e9, e10⟩ := j.1.2
    have hD := e5.1
    have eD : (s 386 41 - 1).toNat = D - 1 := by omega
    rw [eD] at hfr ⊢
    rw [← h409] at hfr
    have hf1 : 1 ≤ D - 1 := by
      by_cases z : D - 1 = 0
      · have := e5.2.1
        rw [z] at hfr
        omega
      · omega
    have a409 : zup g1 409 (D - 1) 4 409 = zup1 (g1 409) (D - 1) 4 := by rw [zup_app, if_pos rfl]
    refine ⟨D, n, e1, e2, e3, e4, ?_, e6, e7, e8, e9, ?_⟩
    · rw [a409]
      exact (e5.fr hf1).o0
    · intro z
      obtain ⟨b1, b2, h, b3, b4⟩ := e10 z
      rw [a409]
      refine ⟨b1, fun f hf hq => ?_, h, b3, ?_⟩
      · by_cases q : f = D - 1
        · subst q
          exact b2 (D - 1) hf (Or.inl hfr)
        · rw [zup1_ne q] at hq
          exact b2 f hf hq
      · have : c4 (zup1 (g1 409) (D - 1) 4) D = c4 (g1 409) D + 1 := by
          obtain ⟨m, rfl⟩ : ∃ m, D = m + 1 := ⟨D - 1, by omega⟩
          simp only [Nat.add_sub_cancel] at hfr ⊢
          rw [c4_s, c4_s, c4_congr (fun i hi => zup1_ne (by omega)), zup1_eq, hfr, if_pos rfl, if_neg (by decide)]
          show c4 (g1 409) m + 1 = c4 (g1 409) m + 0 + 1
          omega
        show cb (g1 414) n + c4 (zup1 (g1 409) (D - 1) 4) D + 0 ≤ h
        omega
  have hr3 := RI.of q a f (by show 0 ≤ g1 386 8; omega) (by omega) (fun _ => by omega)
  have hf := zfa f
  have hcs : CS c0 s g3 := j.2.1.of (hf.1.trans rfl)
  have hpg := a.pg kk hs.1 h3
  exact ⟨zf45 hr3, zCS45 hcs, hpg.1, hpg.2.1, a.pw kk hs.1, fun _ => zPG45 hpg, Or.inl rfl⟩
/-- a frame is closed: ')' or ']' -/
theorem T_close {c0 p : Int} {s g1 g2 g3 : zF} (hs : RI c0 1 s) (hk : s 386 8 = 0) (h3 : 1 ≤ s 386 3) (f1 : zFr RJ s g1) (j : JP c0 s 1 g1) (hfr : 2 ≤ s 409 (s 386 41 - 1).toNat)
    (k : KS g1 g2) (g41 : g2 386 41 = s 386 41 - 1) (g44 : g2 386 44 = g1 386 44) (g42 : g2 386 42 = g1 386 42 - 1) (g45 : g2 386 45 = g1 386 45) (h45 : s 386 45 = 1)
    (a409 : g2 409 = g1 409) (a410 : g2 410 = zup1 (g1 410) (s 386 41 - 2).toNat p) (hp : p = g1 410 (s 386 41 - 2).toNat ∨ p ≠ 0) (a411 : g2 411 = g1 411) (a412 : g2 412 = g1 412) (a413 : g2 413 = g1 413) (a414 : g2 414 = g1 414)
    (hcode : (s 409 (s 386 41 - 1).toNat ≠ 4 ∧ g2 386 34 = g1 386 34 ∧ g2 407 = g1 407) ∨ (s 409 (s 386 41 - 1).toNat = 4 ∧ g2 386 34 = g1 386 34 + 1 ∧ g2 407 = zup1 (g1 407) (1600 * g1 386 35 + g1 386 34).toNat (s 412 (s 386 41 - 1).toNat)))
    (a : AP g2 g3) (f : zFr RA g2 g3) : GP c0 s 1 g3 := by
  have k1 := JP.ks f1
  have h41 : g1 386 41 = s 386 41 := f1.s (by decide)
  have h409 : g1 409 = s 409 := f1.a (by decide)
  have h412 : g1 412 = s 412 := f1.a (by decide)
  have h45' : g1 386 45 = s 386 45 := f1.s (by decide)
  have kk : KS s g2 := k1.trans k
  have hc := zcons kk hs.1 h3 a
  have h8 : g1 386 8 = s 386 8 := k1.2.2.2.2.2.1
  have kA : zB4 g1 = zB4 s := k1.b4
  have h4 : g1 386 4 = s 386 4 := k1.2.2.1
  have h35 : g2 386 35 = g1 386 35 := k.2.2.2.2.2.2.1
  have h28 : g2 386 8 = g1 386 8 := k.2.2.2.2.2.1
  have hsg := hs.1
  unfold SG at hsg
  have qq : QI c0 1 (g1 386 4) (zB4 g1) g2 ∧ CS c0 g1 g2 := by
    obtain ⟨D, n, e1, e2, e3, e4, e5, e6, e7, e8, e9, e10⟩ := j.1.2
    have hD := e5.1
    have eD : (s 386 41 - 1).toNat = D - 1 := by omega
    have eD2 : (s 386 41 - 2).toNat = D - 1 - 1 := by omega
    rw [eD] at hfr hcode
    rw [eD2] at a410 hp
    rw [← h409] at hfr hcode
    rw [← h412] at hcode
    have hD2 : 2 ≤ D := by
      by_cases z : D = 1
      · have := e5.2.1
        subst z
        simp only [Nat.sub_self] at hfr
        omega
      · omega
    obtain ⟨m, rfl⟩ : ∃ m, D = m + 1 := ⟨D - 1, by omega⟩
    simp only [Nat.add_sub_cancel] at hfr hcode a410 hp
    have hbase : g1 413 m = n := by
      have hle := e5.2.2.2.1
      rw [show m + 1 - 1 = m by omega] at hle
      by_cases z : g1 413 m = n
      · exact z
      · exfalso
        have h0 : 0 ≤ g1 413 m := Int.le_trans e5.2.2.2.2.1 (e5.2.2.1 0 m (by omega) (by omega))
        have h6 := j.2.2 (g1 413 m).toNat (by rw [show (g1 386 41 - 1).toNat = m by omega]; omega) (by omega)
        have := (rk_b (g1 414 (g1 413 m).toNat)).1
        omega
    obtain ⟨b1, b2, h, b3, b4⟩ := e10 (by omega)
    have hst := e5.close (by omega : 1 ≤ m) hbase hp
    have hcb0 := (cb_b (op := g1 414) n).1
    have hc40 := c4_b (fr := g1 409) m
    have hc4 : c4 (g1 409) (m + 1) = c4 (g1 409) m + if g1 409 m = 4 then 1 else 0 := c4_s
    rcases hcode with ⟨c1, c2, c3⟩ | ⟨c1, c2, c3⟩
    · rw [if_neg c1] at hc4
      refine ⟨⟨m, n, by omega, by omega, by omega, by omega, ?_, by rw [h35]; exact e6, e7, by omega, by omega, fun _ => ?_⟩, CS.refl.of c3⟩
      · rw [a409, a410, a411, a413, a414]; exact hst
      · rw [a409, a412, a414, c3, h35, c2]
        exact ⟨b1, fun f hf => b2 f (by omega), h, b3, by omega⟩
    · rw [if_pos c1] at hc4
      have hb2 := b2 m (by omega) (Or.inr c1)
      have hadd := zH_add (x := g1 412 m) e6 e7 e8 b3
      rw [if_neg (by omega), if_neg (by omega), if_pos (by omega)] at hadd
      refine ⟨⟨m, n, by omega, by omega, by omega, by omega, ?_, by rw [h35]; exact e6, e7, by omega, by omega, fun _ => ?_⟩, CS_add e6 e7 e8 (by omega) c3⟩
      · rw [a409, a410, a411, a413, a414]; exact hst
      · rw [a409, a412, a414, c3, h35, c2]
        exact ⟨b1, fun f hf => b2 f (by omega), h - 1, hadd, by omega⟩
  have hr3 := RI.of qq.1 a f (by omega) (by omega) (fun _ => by omega)
  have hf := zfa f
  have hcs : CS c0 s g3 := (j.2.1.trans k1.2.2.2.2.2.2.1 qq.2).of hf.1
  have hpg := a.pg kk hs.1 h3
  have h45f : g3 386 45 = 1 := by
    have : g3 386 45 = g2 386 45 := f.s (by decide)
    omega
  refine ⟨by rw [h45f]; exact hr3, hcs, hpg.1, hpg.2.1, a.pw kk hs.1, fun _ => hpg, Or.inr h45f⟩
/-- nothing goes on -/
theorem T_end {c0 : Int} {s g1 : zF} (hs : RI c0 1 s) (h45 : s 386 45 = 1) (f1 : zFr RJ s g1) (j : JP c0 s 1 g1) : GP c0 s 0 g1 := by
  have k1 := JP.ks f1
  obtain ⟨k1, k2, k3, k4, k5, k6, k7, k8⟩ := k1
  have e : g1 386 45 = 1 := by
    have : g1 386 45 = s 386 45 := f1.s (by decide)
    omega
  refine ⟨by rw [e]; exact j.1, j.2.1, k1, by omega, ⟨k1, by omega, by omega, by omega⟩, fun z => absurd z (by decide), Or.inr e⟩
def blF (s : zF) (k x : Int) : zF := zup (zup s 386 8 k) 386 9 x
theorem blF_sg {s : zF} {k x : Int} (h : SG s) (hk : 1 ≤ k) (hk5 : k ≤ 5) : SG (blF s k x) := by
  unfold SG at h ⊢
  obtain ⟨a1, a2, a3, a4, a5, a6, a7, a8, a9, a10, a11⟩ := h
  exact ⟨a1, a2, a3, a4, a5, a6, a7, a8, a9, by show 0 ≤ k; omega, by show k ≤ 5; exact hk5⟩
theorem blF_ri {c0 o o' : Int} {s : zF} {k x : Int} (h : RI c0 o s) (hk : 1 ≤ k) (hk5 : k ≤ 5) (ho : o' = o ∨ o' = 0) : RI c0 o' (blF s k x) := h.blame (blF_sg h.1 hk hk5) rfl rfl rfl rfl rfl rfl rfl rfl rfl rfl hk (fun D n _ z => by
  rcases ho with rfl | rfl
  · exact z
  · exact z.o0)
theorem T_bl {c0 k x : Int} {s : zF} (hs : RI c0 1 s) (hk0 : s 386 8 = 0) (h45 : s 386 45 = 1) (hk : 1 ≤ k) (hk5 : k ≤ 5) : GP c0 s 0 (blF s k x) := by
  refine ⟨?_, fun p _ => rfl, rfl, by show s 386 8 ≤ k; omega, ⟨rfl, by show s 386 8 ≤ k; omega, Int.le_refl _, Int.le_refl _⟩, fun z => absurd z (by decide), Or.inr h45⟩
  show RI c0 (s 386 45) (blF s k x)
  rw [h45]
  exact blF_ri hs hk hk5 (Or.inl rfl)
