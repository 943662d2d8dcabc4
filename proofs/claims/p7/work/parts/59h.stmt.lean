/-! the reference's reader of STATEMENTS: what the banks hold -/
def MP (s s' : zF) : Prop := SG s' ∧ PW s s' ∧ (1 ≤ s' 386 8 ∨ zMs s' + 1 ≤ zMs s)
def NBd (k lo v hi : Int) : Prop := k = 0 → lo ≤ v ∧ v ≤ hi
def WP (s s' : zF) : Prop := SG s' ∧ PW s s'
theorem AP.mp {s s' : zF} (hs : SG s) (h3 : 1 ≤ s 386 3) (a : AP s s') : MP s s' := by
  have h := a.pg KS.refl hs h3
  exact ⟨a.1, a.pw KS.refl hs, h.2.2.2⟩
theorem AP.wp {s s' : zF} (hs : SG s) (a : AP s s') : WP s s' := ⟨a.1, a.pw KS.refl hs⟩
theorem MP.wp {s s' : zF} (h : MP s s') : WP s s' := ⟨h.1, h.2.1⟩
theorem WP.refl {s : zF} (h : SG s) : WP s s := ⟨h, PW.refl⟩
theorem MP.stop {s : zF} (h : SG s) (hk : 1 ≤ s 386 8) : MP s s := ⟨h, PW.refl, Or.inl hk⟩
theorem MP.bl {s : zF} {k x : Int} (h : SG s) (hk0 : s 386 8 = 0) (hk : 1 ≤ k) (hk5 : k ≤ 5) : MP s (blF s k x) := ⟨blF_sg h hk hk5, ⟨rfl, by show s 386 8 ≤ k; omega, Int.le_refl _, Int.le_refl _⟩, Or.inl hk⟩
theorem MP.trans {s s' s'' : zF} (h : MP s s') (h' : WP s' s'') : MP s s'' := by
  obtain ⟨a1, a2, a3⟩ := h
  obtain ⟨b1, b2⟩ := h'
  refine ⟨b1, a2.trans b2, ?_⟩
  obtain ⟨c1, c2, c3, c4⟩ := b2
  unfold zMs at a3 ⊢
  omega
theorem WP.trans {s s' s'' : zF} (h : WP s s') (h' : WP s' s'') : WP s s'' := ⟨h'.1, h.2.trans h'.2⟩
theorem WP.mp {s s' s'' : zF} (h : WP s s') (h' : MP s' s'') : MP s s'' := by
  obtain ⟨a1, a2⟩ := h
  obtain ⟨b1, b2, b3⟩ := h'
  refine ⟨b1, a2.trans b2, ?_⟩
  obtain ⟨c1, c2, c3, c4⟩ := a2
  unfold zMs at b3 ⊢
  omega
theorem zKSz {s : zF} {a k : Nat} {v : Int} (n : a ≠ 386) (n2 : a ≠ 387) : KS s (zup s a k v) := by
  have e : (zup s a k v) 386 = s 386 := zup_na (fun z => n z.symm)
  refine ⟨?_, ?_, ?_, ?_, ?_, ?_, ?_, zup_na (fun z => n2 z.symm)⟩ <;> rw [e]
theorem MP.z {s s' : zF} {a k : Nat} {v : Int} (h : MP s s') (n : a ≠ 386) (n2 : a ≠ 387) : MP s (zup s' a k v) := by
  have e : (zup s' a k v) 386 = s' 386 := zup_na (fun z => n z.symm)
  obtain ⟨a1, a2, a3⟩ := h
  refine ⟨(zKSz n n2).sg a1, ?_, ?_⟩
  · unfold PW at a2 ⊢; rw [e]; exact a2
  · unfold zMs at a3 ⊢; rw [e]; exact a3
theorem WP.z {s s' : zF} {a k : Nat} {v : Int} (h : WP s s') (n : a ≠ 386) (n2 : a ≠ 387) : WP s (zup s' a k v) := by
  have e : (zup s' a k v) 386 = s' 386 := zup_na (fun z => n z.symm)
  obtain ⟨a1, a2⟩ := h
  refine ⟨(zKSz n n2).sg a1, ?_⟩
  unfold PW at a2 ⊢; rw [e]; exact a2
def zINb (R : zRL) (a : Nat) : Bool := R.any fun p => decide (p.1 ≤ a) && decide (a < p.2.1) && decide (p.2.2 = 1000)
theorem zINb_ok {R : zRL} {a k : Nat} (h : zINb R a = true) : zIR R a k := by
  obtain ⟨p, hp, hq⟩ := List.any_eq_true.mp h
  simp at hq
  exact ⟨p, hp, hq.1.1, hq.1.2, Or.inl hq.2⟩
theorem zFr_za {R : zRL} {s s' : zF} (h : zFr R s s') {a k : Nat} {v : Int} (n : zINb R a = true) : zFr R s (zup s' a k v) := zFr_zup h (zINb_ok n)
/-- a LAW's code -/
def LWk (s : zF) (b k : Nat) (lim : Int) : Prop := 0 ≤ s 404 (8 * b + k) ∧ s 404 (8 * b + k) ≤ s 405 (8 * b + k) ∧ s 405 (8 * b + k) ≤ s 406 (8 * b + k) ∧ s 406 (8 * b + k) ≤ lim ∧
  zH (s 407) (1600 * b + (s 404 (8 * b + k)).toNat) (s 405 (8 * b + k) - s 404 (8 * b + k)).toNat ≠ none ∧ zH (s 407) (1600 * b + (s 405 (8 * b + k)).toNat) (s 406 (8 * b + k) - s 405 (8 * b + k)).toNat ≠ none
/-- a bank: its LAWS, its DREAMS' odds -/
def WFB (s : zF) (b : Nat) (lim : Int) : Prop := lim ≤ 1600 ∧ s 402 b ≤ 8 ∧ (∀ k : Nat, (k : Int) < s 402 b → LWk s b k lim) ∧ 0 ≤ s 396 b ∧ s 396 b ≤ 6 ∧ (∀ d : Nat, (d : Int) < s 396 b → 1 ≤ s 401 (6 * b + d) ∧ s 401 (6 * b + d) ≤ 99)
def DI (b0 i : Nat) (s : zF) : Prop := SG s ∧ s 386 12 = b0 ∧ s 386 35 = i ∧ 0 ≤ s 386 34 ∧ s 386 34 ≤ s 386 4 ∧ WFB s b0 1600 ∧ (s 386 8 = 0 → WFB s i (s 386 34))
theorem LWk.congr {s s' : zF} {b k : Nat} {lim lim' : Int} (h : LWk s b k lim) (hl : lim ≤ lim') (h1 : lim ≤ 1600) (e4 : s' 404 (8 * b + k) = s 404 (8 * b + k)) (e5 : s' 405 (8 * b + k) = s 405 (8 * b + k)) (e6 : s' 406 (8 * b + k) = s 406 (8 * b + k))
    (e7 : ∀ p : Nat, 1600 * b ≤ p → (p : Int) < 1600 * b + lim → s' 407 p = s 407 p) : LWk s' b k lim' := by
  obtain ⟨a1, a2, a3, a4, a5, a6⟩ := h
  unfold LWk
  rw [e4, e5, e6]
  refine ⟨a1, a2, a3, by omega, ?_, ?_⟩
  · rw [zH_congr (cs := s 407)]
    · exact a5
    · intro i hi
      exact e7 _ (by omega) (by omega)
  · rw [zH_congr (cs := s 407)]
    · exact a6
    · intro i hi
      exact e7 _ (by omega) (by omega)
theorem WFB.congr {s s' : zF} {b : Nat} {lim lim' : Int} (h : WFB s b lim) (hl : lim ≤ lim') (hl2 : lim' ≤ 1600) (e2 : s' 402 b = s 402 b) (e396 : s' 396 b = s 396 b) (e401 : ∀ d : Nat, (d : Int) < s 396 b → s' 401 (6 * b + d) = s 401 (6 * b + d))
    (e4 : ∀ k : Nat, (k : Int) < s 402 b → s' 404 (8 * b + k) = s 404 (8 * b + k)) (e5 : ∀ k : Nat, (k : Int) < s 402 b → s' 405 (8 * b + k) = s 405 (8 * b + k)) (e6 : ∀ k : Nat, (k : Int) < s 402 b → s' 406 (8 * b + k) = s 406 (8 * b + k))
    (e7 : ∀ p : Nat, 1600 * b ≤ p → (p : Int) < 1600 * b + lim → s' 407 p = s 407 p) : WFB s' b lim' := by
  obtain ⟨a0, a1, a2, a3, a4, a5⟩ := h
  unfold WFB
  rw [e2, e396]
  refine ⟨hl2, a1, fun k hk => (a2 k hk).congr hl a0 (e4 k hk) (e5 k hk) (e6 k hk) e7, a3, a4, fun d hd => ?_⟩
  rw [e401 d hd]
  exact a5 d hd
theorem DI.fr {b0 i : Nat} {s s' : zF} {R : zRL} (h : DI b0 i s) (m : WP s s') (f : zFr R s s') (n12 : zNS R 386 12 = true) (n35 : zNS R 386 35 = true) (n34 : zNS R 386 34 = true) (n396 : zNA R 396 = true) (n401 : zNA R 401 = true) (n402 : zNA R 402 = true)
    (n404 : zNA R 404 = true) (n405 : zNA R 405 = true) (n406 : zNA R 406 = true) (n407 : zNA R 407 = true) : DI b0 i s' := by
  obtain ⟨a1, a2, a3, a4, a5, a6, a7⟩ := h
  obtain ⟨b1, b2, b3, b4, b5⟩ := m
  have e34 : s' 386 34 = s 386 34 := f.s n34
  have hz := a1.sz
  have g : ∀ b lim, WFB s b lim → WFB s' b lim := fun b lim w => w.congr (Int.le_refl _) w.1 (congrFun (f.a n402) b) (congrFun (f.a n396) b) (fun d _ => congrFun (f.a n401) _) (fun k _ => congrFun (f.a n404) _) (fun k _ => congrFun (f.a n405) _) (fun k _ => congrFun (f.a n406) _) (fun p _ _ => congrFun (f.a n407) p)
  refine ⟨b1, (f.s n12).trans a2, (f.s n35).trans a3, by omega, by omega, g _ _ a6, fun hk => ?_⟩
  rw [e34]
  exact g _ _ (a7 (by omega))
/-- odds behind those that are told -/
theorem DI.odds {b0 i k : Nat} {v : Int} {s : zF} (h : DI b0 i s) (hb : b0 ≠ i) (hb1 : b0 ≤ 1) (hi1 : i ≤ 1) (hm : s 396 i ≤ 5) (hm0 : 0 ≤ s 396 i) (hk : (k : Int) = 6 * i + s 396 i) : DI b0 i (zup s 401 k v) := by
  obtain ⟨a1, a2, a3, a4, a5, a6, a7⟩ := h
  have e : ∀ a, a ≠ 401 → (zup s 401 k v) a = s a := fun a ha => zup_na ha
  have e386 := e 386 (by decide)
  refine ⟨(zKSz (by decide) (by decide)).sg a1, by rw [e386]; exact a2, by rw [e386]; exact a3, by rw [e386]; exact a4, by rw [e386]; exact a5, ?_, fun hz => ?_⟩
  · refine a6.congr (Int.le_refl _) a6.1 (by rw [e 402 (by decide)]) (by rw [e 396 (by decide)]) (fun d hd => ?_) (fun k _ => by rw [e 404 (by decide)]) (fun k _ => by rw [e 405 (by decide)]) (fun k _ => by rw [e 406 (by decide)]) (fun p _ _ => by rw [e 407 (by decide)])
    have := a6.2.2.2.2.1
    exact zup_ne (Or.inr (by omega))
  · rw [e386] at hz ⊢
    have a8 := a7 hz
    refine a8.congr (Int.le_refl _) a8.1 (by rw [e 402 (by decide)]) (by rw [e 396 (by decide)]) (fun d hd => ?_) (fun k _ => by rw [e 404 (by decide)]) (fun k _ => by rw [e 405 (by decide)]) (fun k _ => by rw [e 406 (by decide)]) (fun p _ _ => by rw [e 407 (by decide)])
    exact zup_ne (Or.inr (by omega))
theorem DI.dream {b0 i : Nat} {v : Int} {s : zF} (h : DI b0 i s) (hb : b0 ≠ i) (hm : s 396 i ≤ 5) (hv : v = s 396 i + 1) (ho : 1 ≤ s 401 (6 * i + (s 396 i).toNat) ∧ s 401 (6 * i + (s 396 i).toNat) ≤ 99) : DI b0 i (zup s 396 i v) := by
  obtain ⟨a1, a2, a3, a4, a5, a6, a7⟩ := h
  have e : ∀ a, a ≠ 396 → (zup s 396 i v) a = s a := fun a ha => zup_na ha
  have e386 := e 386 (by decide)
  refine ⟨(zKSz (by decide) (by decide)).sg a1, by rw [e386]; exact a2, by rw [e386]; exact a3, by rw [e386]; exact a4, by rw [e386]; exact a5, ?_, fun hz => ?_⟩
  · exact a6.congr (Int.le_refl _) a6.1 (by rw [e 402 (by decide)]) (zup_ne (Or.inr hb)) (fun d hd => by rw [e 401 (by decide)]) (fun k _ => by rw [e 404 (by decide)]) (fun k _ => by rw [e 405 (by decide)]) (fun k _ => by rw [e 406 (by decide)]) (fun p _ _ => by rw [e 407 (by decide)])
  · rw [e386] at hz ⊢
    obtain ⟨c0, c1, c2, c3, c4, c5⟩ := a7 hz
    unfold WFB
    rw [zup_eq, e 402 (by decide), e 401 (by decide)]
    refine ⟨c0, c1, fun k hk => (c2 k hk).congr (Int.le_refl _) c0 (by rw [e 404 (by decide)]) (by rw [e 405 (by decide)]) (by rw [e 406 (by decide)]) (fun p _ _ => by rw [e 407 (by decide)]), by omega, by omega, fun d hd => ?_⟩
    by_cases q : (d : Int) = s 396 i
    · rw [show d = (s 396 i).toNat by omega]
      exact ho
    · exact c5 d (by omega)
/-- where a LAW's codes begin and end: behind those that are told -/
theorem DI.at {b0 i k a : Nat} {v : Int} {s : zF} (h : DI b0 i s) (ha : a = 404 ∨ a = 405 ∨ a = 406) (hb : b0 ≠ i) (hb1 : b0 ≤ 1) (hi1 : i ≤ 1) (hm : s 402 i ≤ 7) (hm0 : 0 ≤ s 402 i) (hk : (k : Int) = 8 * i + s 402 i) : DI b0 i (zup s a k v) := by
  obtain ⟨a1, a2, a3, a4, a5, a6, a7⟩ := h
  have e : ∀ c, c ≠ a → (zup s a k v) c = s c := fun c hc => zup_na hc
  have e386 := e 386 (by omega)
  have e2 : ∀ (c b : Nat) (j : Nat), (j : Int) < s 402 b → s 402 b ≤ 8 → b ≤ 1 → (b = i ∨ b = b0) → (zup s a k v) c (8 * b + j) = s c (8 * b + j) := by
    intro c b j hj h8 hb1 hbi
    by_cases q : c = a
    · refine zup_ne (Or.inr ?_)
      rcases hbi with z | z
      · rw [z] at hj ⊢; omega
      · omega
    · rw [e c q]
  refine ⟨(zKSz (by omega) (by omega)).sg a1, by rw [e386]; exact a2, by rw [e386]; exact a3, by rw [e386]; exact a4, by rw [e386]; exact a5, ?_, fun hz => ?_⟩
  · have h8 := a6.2.1
    exact a6.congr (Int.le_refl _) a6.1 (by rw [e 402 (by omega)]) (by rw [e 396 (by omega)]) (fun d _ => by rw [e 401 (by omega)]) (fun j hj => e2 404 b0 j hj h8 hb1 (Or.inr rfl)) (fun j hj => e2 405 b0 j hj h8 hb1 (Or.inr rfl)) (fun j hj => e2 406 b0 j hj h8 hb1 (Or.inr rfl)) (fun p _ _ => by rw [e 407 (by omega)])
  · rw [e386] at hz ⊢
    have a8 := a7 hz
    have h8 := a8.2.1
    exact a8.congr (Int.le_refl _) a8.1 (by rw [e 402 (by omega)]) (by rw [e 396 (by omega)]) (fun d _ => by rw [e 401 (by omega)]) (fun j hj => e2 404 i j hj h8 hi1 (Or.inl rfl)) (fun j hj => e2 405 i j hj h8 hi1 (Or.inl rfl)) (fun j hj => e2 406 i j hj h8 hi1 (Or.inl rfl)) (fun p _ _ => by rw [e 407 (by omega)])
abbrev RR : zRL := [(407, 415, 1000), (386, 387, 3), (386, 387, 34), (386, 387, 4), (386, 387, 41), (386, 387, 42), (386, 387, 44), (386, 387, 45), (386, 387, 5), (386, 387, 6), (386, 387, 7), (386, 387, 8), (386, 387, 9)]
theorem DI.reads {b0 i : Nat} {s s' : zF} (h : DI b0 i s) (hb : b0 ≠ i) (hb1 : b0 ≤ 1) (hi1 : i ≤ 1) (r : RP s s') (f : zFr RR s s') : DI b0 i s' := by
  obtain ⟨a1, a2, a3, a4, a5, a6, a7⟩ := h
  obtain ⟨b1, b2, b3, b4, b5, b6⟩ := r
  obtain ⟨c1, c2, c3, c4⟩ := b2
  have hz := a1.sz
  have hz2 := b1.sz
  have e402 : s' 402 = s 402 := f.a (by decide)
  have e396 : s' 396 = s 396 := f.a (by decide)
  have e401 : s' 401 = s 401 := f.a (by decide)
  have e404 : s' 404 = s 404 := f.a (by decide)
  have e405 : s' 405 = s 405 := f.a (by decide)
  have e406 : s' 406 = s 406 := f.a (by decide)
  have e12 : s' 386 12 = s 386 12 := f.s (by decide)
  have e35 : s' 386 35 = s 386 35 := f.s (by decide)
  refine ⟨b1, e12.trans a2, e35.trans a3, by omega, b4, ?_, fun hk => ?_⟩
  · refine a6.congr (Int.le_refl _) a6.1 (by rw [e402]) (by rw [e396]) (fun _ _ => by rw [e401]) (fun _ _ => by rw [e404]) (fun _ _ => by rw [e405]) (fun _ _ => by rw [e406]) (fun p h1 h2 => b5 p ?_)
    rw [a3]
    omega
  · have a8 := a7 (by omega)
    refine a8.congr b3 (by omega) (by rw [e402]) (by rw [e396]) (fun _ _ => by rw [e401]) (fun _ _ => by rw [e404]) (fun _ _ => by rw [e405]) (fun _ _ => by rw [e406]) (fun p h1 h2 => b5 p ?_)
    rw [a3]
    omega
theorem DI.law {b0 i : Nat} {v : Int} {s : zF} (h : DI b0 i s) (hb : b0 ≠ i) (hm : s 402 i ≤ 7) (hm0 : 0 ≤ s 402 i) (hv : v = s 402 i + 1) (hl : LWk s i (s 402 i).toNat (s 386 34)) : DI b0 i (zup s 402 i v) := by
  obtain ⟨a1, a2, a3, a4, a5, a6, a7⟩ := h
  have e : ∀ a, a ≠ 402 → (zup s 402 i v) a = s a := fun a ha => zup_na ha
  have e386 := e 386 (by decide)
  have eL : ∀ b k lim, LWk s b k lim → LWk (zup s 402 i v) b k lim := by
    intro b k lim w
    unfold LWk at w ⊢
    rw [e 404 (by decide), e 405 (by decide), e 406 (by decide), e 407 (by decide)]
    exact w
  refine ⟨(zKSz (by decide) (by decide)).sg a1, by rw [e386]; exact a2, by rw [e386]; exact a3, by rw [e386]; exact a4, by rw [e386]; exact a5, ?_, fun hz => ?_⟩
  · exact a6.congr (Int.le_refl _) a6.1 (zup_ne (Or.inr hb)) (by rw [e 396 (by decide)]) (fun d hd => by rw [e 401 (by decide)]) (fun k _ => by rw [e 404 (by decide)]) (fun k _ => by rw [e 405 (by decide)]) (fun k _ => by rw [e 406 (by decide)]) (fun p _ _ => by rw [e 407 (by decide)])
  · rw [e386] at hz ⊢
    obtain ⟨c0, c1, c2, c3, c4, c5⟩ := a7 hz
    unfold WFB
    rw [zup_eq, e 396 (by decide), e 401 (by decide)]
    refine ⟨c0, by omega, fun k hk => eL _ _ _ ?_, c3, c4, c5⟩
    by_cases q : (k : Int) = s 402 i
    · rw [show k = (s 402 i).toNat by omega]
      exact hl
    · exact c2 k (by omega)
theorem zFr_nil {s s' : zF} (h : zFr [] s s') : s' = s := by
  funext a k
  exact h a k zNI_nil
theorem DI.bl {b0 i : Nat} {k x : Int} {s : zF} (h : DI b0 i s) (hk : 1 ≤ k) (hk5 : k ≤ 5) : DI b0 i (blF s k x) := by
  obtain ⟨a1, a2, a3, a4, a5, a6, a7⟩ := h
  refine ⟨blF_sg a1 hk hk5, a2, a3, a4, a5, a6, fun z => ?_⟩
  have : k = 0 := z
  omega
def zINs (R : zRL) (a k : Nat) : Bool := R.any fun p => decide (p.1 ≤ a) && decide (a < p.2.1) && (decide (p.2.2 = 1000) || decide (p.2.2 = k))
theorem zINs_ok {R : zRL} {a k : Nat} (h : zINs R a k = true) : zIR R a k := by
  obtain ⟨p, hp, hq⟩ := List.any_eq_true.mp h
  simp at hq
  exact ⟨p, hp, hq.1.1, hq.1.2, hq.2⟩
theorem T_lawend {b0 i : Nat} {L c0 c1 c2 v : Int} {s : zF} (h : DI b0 i s) (hb : b0 ≠ i) (hL : s 402 i = L) (b7 : L ≤ 7) (b0L : 0 ≤ L) (v4 : s 404 (8 * i + L.toNat) = c0) (v5 : s 405 (8 * i + L.toNat) = c1) (v6 : s 406 (8 * i + L.toNat) = c2) (f8 : s 386 34 = c2)
    (j0 : 0 ≤ c0) (u1 : c0 ≤ c1) (u2 : c1 ≤ c2) (z1 : zH (s 407) (1600 * (i : Int) + c0).toNat (c1 - c0).toNat ≠ none) (z2 : zH (s 407) (1600 * (i : Int) + c1).toNat (c2 - c1).toNat ≠ none) (hv : v = L + 1) : DI b0 i (zup s 402 i v) := by
  refine h.law hb (by omega) (by omega) (by omega) ?_
  rw [hL]
  unfold LWk
  rw [v4, v5, v6, f8]
  refine ⟨j0, u1, u2, Int.le_refl _, ?_, ?_⟩
  · rw [show 1600 * i + c0.toNat = (1600 * (i : Int) + c0).toNat by omega]
    exact z1
  · rw [show 1600 * i + c1.toNat = (1600 * (i : Int) + c1).toNat by omega]
    exact z2
theorem T_z1 {cs cs' : Nat → Int} {i : Nat} {c0 c1 : Int} (j0 : 0 ≤ c0) (u1 : c0 ≤ c1) (w : zH cs (1600 * (i : Int) + c0).toNat (c1 - c0).toNat ≠ none) (e : ∀ p : Nat, ¬ (1600 * (i : Int) + c1 ≤ p ∧ (p : Int) < 1600 * i + 1600) → cs' p = cs p) : zH cs' (1600 * (i : Int) + c0).toNat (c1 - c0).toNat ≠ none := by
  rw [zH_congr (cs := cs) (fun j hj => e _ (by omega))]
  exact w
theorem fk_0 {s s' : zF} (h : SG s) (p : PW s s') (z : s' 386 8 = 0) : s 386 8 = 0 := by
  have h1 := h.sz
  have h2 := p.2.1
  omega
