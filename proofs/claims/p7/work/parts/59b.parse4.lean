/-! the reference's reader of SUMS and TESTS: what operand does -/
def OpP (c0 k : Int) (s s' : zF) : Prop := CS c0 s s' ∧ PG s s' ∧ PW s s' ∧ 1 ≤ s' 386 41 ∧ s' 386 41 ≤ 20 ∧ (k ≠ 3 → RI c0 0 s') ∧ (k = 3 → (1 ≤ s' 386 8 → RI c0 0 s') ∧ ∀ p : Int, 15 ≤ p → p ≤ 16 → RI c0 0 (zup s' 412 (s' 386 41 - 1).toNat p))
theorem puF_409 {s : zF} {k : Int} : (puF s k) 409 = zup1 (s 409) (s 386 41).toNat k := by
  unfold puF
  rw [zup_na (by decide), zup_na (by decide), zup_na (by decide), zup_na (by decide), zup_app, if_pos rfl]
theorem puF_410 {s : zF} {k : Int} : (puF s k) 410 = zup1 (s 410) (s 386 41).toNat 0 := by
  unfold puF
  rw [zup_na (by decide), zup_na (by decide), zup_na (by decide), zup_app, if_pos rfl, zup_na (by decide)]
theorem puF_411 {s : zF} {k : Int} : (puF s k) 411 = zup1 (s 411) (s 386 41).toNat 1 := by
  unfold puF
  rw [zup_na (by decide), zup_na (by decide), zup_app, if_pos rfl, zup_na (by decide), zup_na (by decide)]
theorem puF_413 {s : zF} {k : Int} : (puF s k) 413 = zup1 (s 413) (s 386 41).toNat (s 386 44) := by
  unfold puF
  rw [zup_na (by decide), zup_app, if_pos rfl, zup_na (by decide), zup_na (by decide), zup_na (by decide)]
theorem puQ {c0 k : Int} {s g2 s' : zF} (hs : RI c0 0 s) (hk : s 386 8 = 0) (h3 : 1 ≤ s 386 3) (hbg : s 411 (s 386 41 - 1).toNat ≠ 1) (hop : s 386 42 ≤ 7) (hk1 : k = 2 ∨ k = 3 ∨ k = 5)
    (a : AP (zup s 386 42 (s 386 42 + 1)) g2) (f : zFr RA (zup s 386 42 (s 386 42 + 1)) g2)
    (e412 : ∀ i : Nat, i < (s 386 41).toNat → s' 412 i = g2 412 i) (e412' : s' 386 8 = 0 → k = 3 → 15 ≤ s' 412 (s 386 41).toNat ∧ s' 412 (s 386 41).toNat ≤ 16)
    (es : ∀ b j, b ≠ 412 → s' b j = puF g2 k b j) : RI c0 0 s' := by
  have kk : KS s (zup s 386 42 (s 386 42 + 1)) := ⟨rfl, rfl, rfl, rfl, rfl, rfl, rfl, rfl⟩
  have hc := zcons kk hs.1 h3 a
  have b41 : g2 386 41 = s 386 41 := f.s (by decide)
  have b44 : g2 386 44 = s 386 44 := f.s (by decide)
  have b42 : g2 386 42 = s 386 42 + 1 := f.s (by decide)
  have b35 : g2 386 35 = s 386 35 := f.s (by decide)
  have b34 : g2 386 34 = s 386 34 := f.s (by decide)
  have b407 : g2 407 = s 407 := f.a (by decide)
  have b409 : g2 409 = s 409 := f.a (by decide)
  have b410 : g2 410 = s 410 := f.a (by decide)
  have b411 : g2 411 = s 411 := f.a (by decide)
  have b412 : g2 412 = s 412 := f.a (by decide)
  have b413 : g2 413 = s 413 := f.a (by decide)
  have b414 : g2 414 = s 414 := f.a (by decide)
  obtain ⟨D, n, e1, e2, e3, e4, e5, e6, e7, e8, e9, e10⟩ := hs.2
  have eD : (g2 386 41).toNat = D := by omega
  have eD' : (s 386 41).toNat = D := by omega
  have hD := e5.1
  have eDm : (s 386 41 - 1).toNat = D - 1 := by omega
  rw [eDm] at hbg
  rw [eD'] at e412 e412'
  have c407 : s' 407 = s 407 := by
    funext j; rw [es 407 j (by decide), ← b407]; rfl
  have c409 : s' 409 = zup1 (s 409) D k := by
    funext j; rw [es 409 j (by decide), puF_409, ← b409, ← eD]
  have c410 : s' 410 = zup1 (s 410) D 0 := by
    funext j; rw [es 410 j (by decide), puF_410, ← b410, ← eD]
  have c411 : s' 411 = zup1 (s 411) D 1 := by
    funext j; rw [es 411 j (by decide), puF_411, ← b411, ← eD]
  have c413 : s' 413 = zup1 (s 413) D n := by
    funext j; rw [es 413 j (by decide), puF_413, ← b413, ← eD, ← e2, ← b44]
  have c414 : s' 414 = s 414 := by
    funext j; rw [es 414 j (by decide), ← b414]; rfl
  have c387 : s' 387 = g2 387 := by
    funext j; rw [es 387 j (by decide)]; rfl
  have cs : ∀ j, j ≠ 41 → s' 386 j = g2 386 j := by
    intro j hj
    rw [es 386 j (by decide)]
    unfold puF
    rw [zup_ne (Or.inr hj), zup_ne (Or.inl (by decide)), zup_ne (Or.inl (by decide)), zup_ne (Or.inl (by decide)), zup_ne (Or.inl (by decide))]
  have c41 : s' 386 41 = g2 386 41 + 1 := by rw [es 386 41 (by decide)]; rfl
  have kg : KS g2 s' := ⟨cs 2 (by decide), cs 3 (by decide), cs 4 (by decide), cs 5 (by decide), cs 7 (by decide), cs 8 (by decide), cs 35 (by decide), c387⟩
  have hsg := kg.sg a.1
  have hb4 := kg.b4
  refine ⟨hsg, D + 1, n, by omega, by rw [cs 44 (by decide)]; omega, by rw [cs 42 (by decide)]; omega, by omega, ?_, by rw [cs 35 (by decide), b35]; exact e6, e7, by rw [cs 34 (by decide)]; omega, ?_, ?_⟩
  · rw [c409, c410, c411, c413, c414]
    exact e5.frame hbg
  · rw [cs 34 (by decide), cs 4 (by decide)]
    omega
  · intro z
    obtain ⟨b1, b2, h, b3, b4⟩ := e10 hk
    rw [c409, c414, c407, cs 35 (by decide), cs 34 (by decide), b35, b34, hb4]
    refine ⟨by omega, fun f hf hq => ?_, h, b3, ?_⟩
    · by_cases q : f = D
      · subst q
        rw [zup1_eq] at hq
        rcases hk1 with r | r | r
        · omega
        · exact e412' z r
        · omega
      · rw [zup1_ne q] at hq
        rw [e412 f (by omega), b412]
        exact b2 f (by omega) hq
    · have hc4 : c4 (zup1 (s 409) D k) D = c4 (s 409) D := c4_congr (fun i hi => zup1_ne (by omega))
      have hk4 : ¬ k = 4 := by
        rcases hk1 with r | r | r <;> rw [r] <;> decide
      rw [c4_s, hc4, zup1_eq, if_neg hk4]
      omega
theorem T_opens {c0 k : Int} {s g2 : zF} (hs : RI c0 0 s) (hk : s 386 8 = 0) (h3 : 1 ≤ s 386 3) (hbg : s 411 (s 386 41 - 1).toNat ≠ 1) (hop : s 386 42 ≤ 7) (hk1 : k = 2 ∨ k = 3 ∨ k = 5)
    (a : AP (zup s 386 42 (s 386 42 + 1)) g2) (f : zFr RA (zup s 386 42 (s 386 42 + 1)) g2) : OpP c0 k s (puF g2 k) := by
  have kk : KS s (zup s 386 42 (s 386 42 + 1)) := ⟨rfl, rfl, rfl, rfl, rfl, rfl, rfl, rfl⟩
  have b41 : g2 386 41 = s 386 41 := f.s (by decide)
  have b407 : g2 407 = s 407 := f.a (by decide)
  have hd := hs.dn
  have hpg := a.pg kk hs.1 h3
  have hpw := a.pw kk hs.1
  have e41 : (puF g2 k) 386 41 = s 386 41 + 1 := by
    show g2 386 41 + 1 = s 386 41 + 1
    omega
  refine ⟨fun p _ => ?_, hpg, hpw, by omega, by omega, fun hk3 => ?_, fun hk3 => ⟨fun hf => ?_, fun p p1 p2 => ?_⟩⟩
  · rw [← b407]; rfl
  · exact puQ hs hk h3 hbg hop hk1 a f (fun i hi => rfl) (fun _ z => absurd z hk3) (fun b j hb => rfl)
  · exact puQ hs hk h3 hbg hop hk1 a f (fun i hi => rfl) (fun z _ => absurd z (by omega)) (fun b j hb => rfl)
  · have e : ((puF g2 k) 386 41 - 1).toNat = (s 386 41).toNat := by omega
    rw [e]
    refine puQ hs hk h3 hbg hop hk1 a f (fun i hi => ?_) (fun _ _ => ?_) (fun b j hb => ?_)
    · rw [zup_ne (Or.inr (by omega))]; rfl
    · rw [zup_eq]; exact ⟨p1, p2⟩
    · rw [zup_ne (Or.inl hb)]
theorem T_openF {c0 k : Int} {s : zF} (hs : RI c0 0 s) (hk : 1 ≤ s 386 8) : OpP c0 k s s := by
  have hd := hs.dn
  refine ⟨CS.refl, ⟨rfl, Int.le_refl _, Int.le_refl _, Or.inl hk⟩, ⟨rfl, Int.le_refl _, Int.le_refl _, Int.le_refl _⟩, by omega, by omega, fun _ => hs, fun _ => ⟨fun _ => hs, fun p _ _ => ?_⟩⟩
  exact hs.blame hs.1 rfl rfl rfl rfl rfl rfl rfl rfl rfl rfl hk (fun D n _ z => z)
theorem T_openB {c0 k x : Int} {s : zF} (hs : RI c0 0 s) (hk : s 386 8 = 0) : OpP c0 k s (blF s 5 x) := by
  have hr : RI c0 0 (blF s 5 x) := blF_ri hs (by decide) (by decide) (Or.inl rfl)
  have := T_openF (k := k) hr (by show (1 : Int) ≤ 5; decide)
  obtain ⟨a1, a2, a3, a4⟩ := this
  refine ⟨fun p _ => rfl, ⟨rfl, by show s 386 8 ≤ 5; omega, Int.le_refl _, Or.inl (by show (1 : Int) ≤ 5; decide)⟩, ⟨rfl, by show s 386 8 ≤ 5; omega, Int.le_refl _, Int.le_refl _⟩, a4⟩
/-- begins is false now -/
theorem zbgF {c0 o' : Int} {s : zF} (hs : RI c0 0 s) (ho : o' ≤ 0) : RI c0 o' (zup s 411 (s 386 41 - 1).toNat 0) := by
  refine hs.keep ⟨rfl, rfl, rfl, rfl, rfl, rfl, rfl, zup_na (by decide)⟩ rfl rfl rfl rfl (zup_na (by decide)) (zup_na (by decide)) (zup_na (by decide)) (zup_na (by decide)) (zup_na (by decide)) (zup_na (by decide)) ho (fun D n e z => ?_)
  have hD := z.1
  rw [zup_app, if_pos rfl, show (s 386 41 - 1).toNat = D - 1 by omega]
  exact z.bg0
theorem zbgF2 {s : zF} : (zup s 411 (s 386 41 - 1).toNat 0) 411 ((zup s 411 (s 386 41 - 1).toNat 0) 386 41 - 1).toNat ≠ 1 := by
  have e : (zup s 411 (s 386 41 - 1).toNat 0) 386 41 = s 386 41 := rfl
  rw [e, zup_eq]
  decide
theorem T_not {c0 : Int} {s g2 : zF} (hs : RI c0 0 s) (hk : s 386 8 = 0) (h3 : s 386 3 = 1) (hw : s 386 7 = 7237492) (hb : s 411 (s 386 41 - 1).toNat = 1)
    (a : AP (hbF s 22) g2) (f : zFr RA (hbF s 22) g2) : OP c0 s 0 g2 := by
  have kk : KS s (hbF s 22) := ⟨rfl, rfl, rfl, rfl, rfl, rfl, rfl, rfl⟩
  have hc := zcons kk hs.1 (by omega) a
  have hc4 := zcons4 kk hs.1 h3 (by omega) a
  have hsg := hs.1
  unfold SG at hsg
  have q : QI c0 0 (s 386 4 + 1) (zB4 s + 4) (hbF s 22) := by
    obtain ⟨D, n, e1, e2, e3, e4, e5, e6, e7, e8, e9, e10⟩ := hs.2
    have hD := e5.1
    have eD : (s 386 41 - 1).toNat = D - 1 := by omega
    have en : (s 386 44).toNat = n := by omega
    rw [eD] at hb
    have hseg := e5.2.2.2.2.2.2.1
    have c414 : (hbF s 22) 414 = zup1 (s 414) n 22 := by
      unfold hbF
      rw [zup_app, if_neg (by decide), zup_app, if_pos rfl, en]
    have hst := e5.push (o' := 0) (x := 22) (p := s 410 (D - 1)) (b := s 411 (D - 1)) (by decide)
      (fun i hi hin => Or.inr ⟨rfl, (hseg (D - 1) i (by omega) hi (by unfold zE2; rw [if_neg (by omega)]; omega)).2.2.2 hb⟩)
      (fun z => ⟨by decide, fun i hi hin => (hseg (D - 1) i (by omega) hi (by unfold zE2; rw [if_neg (by omega)]; omega)).2.2.1 z⟩)
      (fun z => ⟨by decide, fun i hi hin => (hseg (D - 1) i (by omega) hi (by unfold zE2; rw [if_neg (by omega)]; omega)).2.2.2 z⟩)
      (fun z => absurd z (by decide))
    rw [zup1_self, zup1_self] at hst
    refine ⟨D, n + 1, e1, by show s 386 44 + 1 = _; omega, e3, e4, ?_, e6, e7, e8, by show s 386 34 + _ + _ ≤ _; omega, fun _ => ?_⟩
    · rw [c414]; exact hst
    · obtain ⟨b1, b2, h, b3, b4⟩ := e10 hk
      have hcb : cb (zup1 (s 414) n 22) n = cb (s 414) n := cb_congr (fun i hi => zup1_ne (by omega))
      rw [c414, cb_s, hcb, zup1_eq, if_pos rfl]
      refine ⟨by omega, b2, h, b3, ?_⟩
      show cb (s 414) n + 0 + c4 (s 409) D + 0 ≤ h
      omega
  have hr := RI.of q a f (by show 0 ≤ s 386 8; omega) (by omega) hc4
  exact ⟨hr, CS.refl.of (zfa f).1, a.pg kk hs.1 (by omega), a.pw kk hs.1⟩
/-- an operand of a SUM, or 'all' -/
theorem T_opnd {c0 x : Int} {s g2 g3 : zF} (hs : RI c0 0 s) (hk : s 386 8 = 0) (h3 : 1 ≤ s 386 3) (hx : x ≤ 9) (k : KS s g2)
    (g41 : g2 386 41 = s 386 41) (g44 : g2 386 44 = s 386 44) (g42 : g2 386 42 = s 386 42) (g34 : g2 386 34 = s 386 34 + 1)
    (a407 : g2 407 = zup1 (s 407) (1600 * s 386 35 + s 386 34).toNat x) (a409 : g2 409 = s 409) (a410 : g2 410 = s 410 ∨ g2 410 = zup1 (s 410) (s 386 41 - 1).toNat 2)
    (a411 : g2 411 = zup1 (s 411) (s 386 41 - 1).toNat 0) (a412 : g2 412 = s 412) (a413 : g2 413 = s 413) (a414 : g2 414 = s 414)
    (a : AP g2 g3) (f : zFr RA g2 g3) : OP c0 s 1 g3 := by
  have hc := zcons k hs.1 h3 a
  have hsg := hs.1
  unfold SG at hsg
  have h35 : g2 386 35 = s 386 35 := k.2.2.2.2.2.2.1
  have h28 : g2 386 8 = s 386 8 := k.2.2.2.2.2.1
  have qq : QI c0 1 (s 386 4 + 1) (zB4 s) g2 ∧ CS c0 s g2 := by
    obtain ⟨D, n, e1, e2, e3, e4, e5, e6, e7, e8, e9, e10⟩ := hs.2
    have hD := e5.1
    have eD : (s 386 41 - 1).toNat = D - 1 := by omega
    rw [eD] at a410 a411
    obtain ⟨b1, b2, h, b3, b4⟩ := e10 hk
    have hadd := zH_add (x := x) e6 e7 e8 b3
    rw [if_pos hx] at hadd
    refine ⟨⟨D, n, by omega, by omega, by omega, e4, ?_, by rw [h35]; exact e6, e7, by omega, by omega, fun _ => ?_⟩, CS_add e6 e7 e8 (by omega) a407⟩
    · rw [a409, a411, a413, a414]
      rcases a410 with z | z
      · rw [z]; exact e5.bg0
      · rw [z]; exact (e5.bg0).ph2 (by decide)
    · rw [a409, a412, a414, a407, h35, g34]
      exact ⟨b1, b2, h + 1, hadd, by omega⟩
  have hr := RI.of qq.1 a f (by omega) (by omega) (fun _ => by omega)
  exact ⟨hr, qq.2.of (zfa f).1, a.pg k hs.1 h3, a.pw k hs.1⟩
theorem T_obl {c0 x : Int} {s : zF} (hs : RI c0 0 s) (hk : s 386 8 = 0) : OP c0 s 1 (blF (zup s 411 (s 386 41 - 1).toNat 0) 1 x) := by
  refine ⟨hs.blame (blF_sg (k := 1) ((KS.sg (s := s) (s' := zup s 411 (s 386 41 - 1).toNat 0) ⟨rfl, rfl, rfl, rfl, rfl, rfl, rfl, zup_na (by decide)⟩) hs.1) (by decide) (by decide)) rfl rfl rfl rfl rfl rfl rfl rfl rfl rfl (by show (1 : Int) ≤ 1; decide) (fun D n e z => ?_), fun p _ => rfl, ⟨rfl, by show s 386 8 ≤ 1; omega, Int.le_refl _, Or.inl (by show (1 : Int) ≤ 1; decide)⟩, ⟨rfl, by show s 386 8 ≤ 1; omega, Int.le_refl _, Int.le_refl _⟩⟩
  have hD := z.1
  have e2 : (blF (zup s 411 (s 386 41 - 1).toNat 0) 1 x) 411 = zup1 (s 411) (D - 1) 0 := by
    unfold blF
    rw [zup_app, if_neg (by decide), zup_app, if_neg (by decide), zup_app, if_pos rfl, show (s 386 41 - 1).toNat = D - 1 by omega]
  rw [e2]
  exact z.bg0
theorem OpP.op {c0 k : Int} {s g g' : zF} (h : OpP c0 k g g') (e : KS s g) (e7 : g 407 = s 407) (hk : k ≠ 3) : OP c0 s 0 g' := by
  obtain ⟨k1, k2, k3, k4, k5, k6, k7, k8⟩ := e
  obtain ⟨a1, a2, a3, a4, a5, a6, a7⟩ := h
  refine ⟨a6 hk, fun p hp => ?_, ?_, ?_⟩
  · rw [a1 p (by rw [k7]; exact hp), e7]
  · unfold PG at a2 ⊢; rw [k1, k6, k3, k4, k2] at a2; exact a2
  · unfold PW at a3 ⊢; rw [k1, k6, k3, k4, k2] at a3; exact a3
