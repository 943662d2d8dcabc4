/-! what the reference keeps from call to call: the DORM's bank, who lies where now and in the ACTS that can be undone -/
def zIa (s : zF) : Prop := ∃ b : Nat, s 386 12 = b ∧ b ≤ 1 ∧ WFB s b 1600
def zNIa (R : zRL) : Bool := zNS R 386 12 && zNA R 396 && zNA R 401 && zNA R 402 && zNA R 404 && zNA R 405 && zNA R 406 && zNA R 407
theorem WFB.fr {R : zRL} {s s' : zF} {b : Nat} {lim : Int} (w : WFB s b lim) (f : zFr R s s') (n : zNIa R = true) : WFB s' b lim := by
  unfold zNIa at n
  simp only [Bool.and_eq_true] at n
  obtain ⟨⟨⟨⟨⟨⟨⟨n1, n2⟩, n3⟩, n4⟩, n5⟩, n6⟩, n7⟩, n8⟩ := n
  exact w.congr (Int.le_refl _) w.1 (congrFun (f.a n4) b) (congrFun (f.a n2) b) (fun d _ => congrFun (f.a n3) _) (fun k _ => congrFun (f.a n5) _) (fun k _ => congrFun (f.a n6) _) (fun k _ => congrFun (f.a n7) _) (fun p _ _ => congrFun (f.a n8) p)
theorem zIa_fr {R : zRL} {s s' : zF} (h : zIa s) (f : zFr R s s') (n : zNIa R = true) : zIa s' := by
  obtain ⟨b, h1, h2, h3⟩ := h
  refine ⟨b, ?_, h2, h3.fr f n⟩
  unfold zNIa at n
  simp only [Bool.and_eq_true] at n
  exact (f.s n.1.1.1.1.1.1.1).trans h1
def Sur (s : zF) (v : Nat) (N : Int) : Prop := ∀ b : Nat, (b : Int) < N → ∃ p : Nat, (p : Int) < N ∧ s 419 (12 * v + p) = b
def ZR (s : zF) : Prop := ∃ b : Nat, s 386 12 = b ∧ b ≤ 1 ∧ WFB s b 1600 ∧ Sur s 0 (s 388 b) ∧ ∀ k : Nat, (k : Int) < s 386 65 → Sur s (2 + ((s 386 64).toNat + k) % 20) (s 388 b)
/-- what the box says of these -/
def BX (s : zF) : Prop := (∀ b : Nat, b ≤ 1 → 0 ≤ s 388 b ∧ s 388 b ≤ 12) ∧ 0 ≤ s 386 65 ∧ s 386 65 ≤ 20 ∧ 0 ≤ s 386 64 ∧ s 386 64 ≤ 19
theorem ZR.ia {s : zF} (h : ZR s) : zIa s := by
  obtain ⟨b, h1, h2, h3, -⟩ := h
  exact ⟨b, h1, h2, h3⟩
def zNIr (R : zRL) : Bool := zNIa R && zNA R 388 && zNA R 419 && zNS R 386 64 && zNS R 386 65
theorem Sur.congr {s s' : zF} {v : Nat} {N : Int} (h : Sur s v N) (hN : N ≤ 12) (e : ∀ p : Nat, p < 12 → s' 419 (12 * v + p) = s 419 (12 * v + p)) : Sur s' v N := by
  intro b hb
  obtain ⟨p, h1, h2⟩ := h b hb
  exact ⟨p, h1, by rw [e p (by omega)]; exact h2⟩
theorem ZR.fr {R : zRL} {s s' : zF} (h : ZR s) (f : zFr R s s') (n : zNIr R = true) : ZR s' := by
  unfold zNIr at n
  simp only [Bool.and_eq_true] at n
  obtain ⟨⟨⟨⟨n1, n2⟩, n3⟩, n4⟩, n5⟩ := n
  obtain ⟨b, h1, h2, h3, h4, h5⟩ := h
  have e419 : s' 419 = s 419 := f.a n3
  have e388 : s' 388 = s 388 := f.a n2
  have e64 : s' 386 64 = s 386 64 := f.s n4
  have e65 : s' 386 65 = s 386 65 := f.s n5
  have n1' := n1
  unfold zNIa at n1'
  simp only [Bool.and_eq_true] at n1'
  refine ⟨b, (f.s n1'.1.1.1.1.1.1.1).trans h1, h2, h3.fr f n1, ?_, fun k hk => ?_⟩
  · unfold Sur at h4 ⊢
    rw [e419, e388]
    exact h4
  · rw [e65] at hk
    have := h5 k hk
    unfold Sur at this ⊢
    rw [e419, e388, e64]
    exact this
theorem zIa_n {R : zRL} (n : zNIr R = true) : zNIa R = true := by
  unfold zNIr at n
  simp only [Bool.and_eq_true] at n
  exact n.1.1.1.1
theorem BX.fr {R : zRL} {s s' : zF} (h : BX s) (f : zFr R s s') (n : zNIr R = true) : BX s' := by
  unfold zNIr at n
  simp only [Bool.and_eq_true] at n
  unfold BX at h ⊢
  rw [show s' 388 = s 388 from f.a n.1.1.1.2, show s' 386 64 = s 386 64 from f.s n.1.2, show s' 386 65 = s 386 65 from f.s n.2]
  exact h
/-- a copy of all that lies and sleeps, from one layer to another -/
def CPY (s : zF) (a0 a1 : Int) (g : zF) : Prop := (∀ k : Nat, k < 12 → g 419 (12 * a0.toNat + k) = s 419 (12 * a1.toNat + k)) ∧ ∀ j : Nat, ((j : Int) < 12 * a0 ∨ 12 * a0 + 12 ≤ j) → g 419 j = s 419 j
def CPYk (s : zF) (a0 a1 v : Int) (g : zF) : Prop := (∀ k : Nat, (k : Int) < v → g 419 (12 * a0.toNat + k) = s 419 (12 * a1.toNat + k)) ∧ ∀ j : Nat, ((j : Int) < 12 * a0 ∨ 12 * a0 + v ≤ j) → g 419 j = s 419 j
theorem CPYk.step {s g g' : zF} {a0 a1 v x i : Int} (h : CPYk s a0 a1 v g) (hv : 0 ≤ v ∧ v < 12) (h0 : 0 ≤ a0) (h1 : 0 ≤ a1) (hne : a0 ≠ a1) (hi : i = 12 * a0 + v) (hx : x = g 419 (12 * a1 + v).toNat) (e : g' 419 = zup1 (g 419) i.toNat x) : CPYk s a0 a1 (v + 1) g' := by
  obtain ⟨c1, c2⟩ := h
  have hx2 : x = s 419 (12 * a1 + v).toNat := by
    rw [hx]
    exact c2 _ (by omega)
  refine ⟨fun k hk => ?_, fun j hj => ?_⟩
  · rw [e]
    by_cases q : (k : Int) = v
    · rw [show 12 * a0.toNat + k = i.toNat by omega, zup1_eq, hx2]
      congr 1
      omega
    · rw [zup1_ne (by omega)]
      exact c1 k (by omega)
  · rw [e, zup1_ne (by omega)]
    exact c2 j (by omega)
theorem CPYk.all {s g : zF} {a0 a1 v : Int} (h : CPYk s a0 a1 v g) (hv : v = 12) : CPY s a0 a1 g := by
  subst hv
  exact ⟨fun k hk => h.1 k (by omega), h.2⟩
theorem CPY.of {s g g' : zF} {a0 a1 : Int} (h : CPY s a0 a1 g) (e : g' 419 = g 419) : CPY s a0 a1 g' := by
  unfold CPY at h ⊢
  rw [e]
  exact h
theorem CPY.sur {s g : zF} {a0 a1 N : Int} (h : CPY s a0 a1 g) (hN : N ≤ 12) (hs : Sur s a1.toNat N) : Sur g a0.toNat N := by
  intro b hb
  obtain ⟨p, p1, p2⟩ := hs b hb
  exact ⟨p, p1, by rw [h.1 p (by omega)]; exact p2⟩
theorem CPY.oth {s g : zF} {a0 a1 N : Int} {v : Nat} (h : CPY s a0 a1 g) (h0 : 0 ≤ a0) (hv : (v : Int) ≠ a0) (hN : N ≤ 12) (hs : Sur s v N) : Sur g v N := by
  refine hs.congr hN (fun p hp => h.2 _ ?_)
  omega
/-- rows -/
theorem zIa.bank {s : zF} (h : zIa s) : ∃ b : Nat, s 386 12 = b ∧ b ≤ 1 ∧ WFB s b 1600 := h
theorem R_step {cs : Nat → Int} {p n : Nat} {h : Int} (e : zH cs p n = some h) (z : zH cs p (n + 1) ≠ none) :
    (cs (p + n) ≤ 9 ∧ zH cs p (n + 1) = some (h + 1)) ∨ (9 < cs (p + n) ∧ cs (p + n) = 22 ∧ 1 ≤ h ∧ zH cs p (n + 1) = some h) ∨ (9 < cs (p + n) ∧ cs (p + n) ≠ 22 ∧ 2 ≤ h ∧ zH cs p (n + 1) = some (h - 1)) := by
  have s := zH_s e
  rw [s] at z ⊢
  by_cases q : cs (p + n) ≤ 9
  · rw [if_pos q] at z ⊢
    exact Or.inl ⟨q, rfl⟩
  · rw [if_neg q] at z ⊢
    by_cases q2 : cs (p + n) = 22
    · rw [if_pos q2] at z ⊢
      by_cases q3 : 1 ≤ h
      · rw [if_pos q3]
        exact Or.inr (Or.inl ⟨by omega, q2, q3, rfl⟩)
      · rw [if_neg q3] at z
        exact absurd rfl z
    · rw [if_neg q2] at z ⊢
      by_cases q3 : 2 ≤ h
      · rw [if_pos q3]
        exact Or.inr (Or.inr ⟨by omega, q2, q3, rfl⟩)
      · rw [if_neg q3] at z
        exact absurd rfl z
/-- sums of odds -/
def oS (f : Nat → Int) (p : Nat) : Nat → Int
  | 0 => 0
  | n + 1 => oS f p n + f (p + n)
theorem oS_b {f : Nat → Int} {p : Nat} : ∀ {n : Nat}, (∀ d, d < n → 1 ≤ f (p + d) ∧ f (p + d) ≤ 99) → (n : Int) ≤ oS f p n ∧ oS f p n ≤ 99 * n
  | 0, _ => ⟨Int.le_refl _, Int.le_refl _⟩
  | n + 1, h => by
    have h1 := oS_b (n := n) (fun d hd => h d (by omega))
    have h2 := h n (by omega)
    unfold oS
    omega
theorem oS_m {f : Nat → Int} {p m : Nat} : ∀ {n : Nat}, (∀ d, d < n → 1 ≤ f (p + d) ∧ f (p + d) ≤ 99) → m ≤ n → oS f p m ≤ oS f p n
  | 0, _, hm => by
    rw [show m = 0 by omega]
    exact Int.le_refl _
  | n + 1, h, hm => by
    by_cases q : m = n + 1
    · rw [q]
      exact Int.le_refl _
    · have h1 := oS_m (n := n) (m := m) (fun d hd => h d (by omega)) (by omega)
      have h2 := h n (by omega)
      show oS f p m ≤ oS f p n + f (p + n)
      omega
def RN (s : zF) (a0 : Int) (g : zF) : Prop := g 386 70 = s 388 (s 386 12).toNat ∧ ∀ p : Nat, (p : Int) < s 388 (s 386 12).toNat → g 434 p = s 419 (12 * a0.toNat + p)
theorem ZR.za {s : zF} {a k : Nat} {v : Int} (h : ZR s) (n : zNIr [(a, a + 1, 1000)] = true) : ZR (zup s a k v) := h.fr (R := [(a, a + 1, 1000)]) (zFr_zup zFr_refl ⟨_, List.mem_cons_self, Nat.le_refl _, Nat.lt_succ_self _, Or.inl rfl⟩) n
theorem ZR.zs {s : zF} {k : Nat} {v : Int} (h : ZR s) (n : zNIr [(386, 387, k)] = true) : ZR (zup s 386 k v) := h.fr (R := [(386, 387, k)]) (zFr_zup zFr_refl ⟨_, List.mem_cons_self, Nat.le_refl _, Nat.lt_succ_self _, Or.inr rfl⟩) n
theorem ZR.n {s : zF} (h : ZR s) : ∃ b : Nat, (s 386 12).toNat = b ∧ b ≤ 1 ∧ Sur s 0 (s 388 b) := by
  obtain ⟨b, h1, h2, h3, h4, -⟩ := h
  exact ⟨b, by omega, h2, h4⟩
theorem ZR.at {s : zF} {a : Int} (h : ZR s) (h0 : 0 ≤ a) (h1 : a < s 388 (s 386 12).toNat) : ∃ p : Nat, (p : Int) < s 388 (s 386 12).toNat ∧ s 419 (12 * (0 : Int).toNat + p) = a := by
  obtain ⟨b, e, hb, hs⟩ := h.n
  rw [e] at h1 ⊢
  obtain ⟨p, p1, p2⟩ := hs a.toNat (by omega)
  exact ⟨p, p1, by rw [show 12 * (0 : Int).toNat = 12 * 0 from rfl, p2]; omega⟩
/-- one more ACT to be undone -/
theorem ZR.keep {s g0 g g' : zF} {u f a : Int} (h : ZR s) (hx : BX s) (hc : CPY g0 a 0 g) (e419 : g0 419 = s 419) (ha : a = 2 + (f + u) % 20)
    (hu : (s 386 65 ≠ 20 ∧ u = s 386 65 ∧ f = s 386 64) ∨ (s 386 65 = 20 ∧ u = 19 ∧ f = (s 386 64 + 1) % 20)) (e65 : g' 386 65 = u + 1) (e64 : g' 386 64 = f) (eg : g' 419 = g 419) (e12 : g' 386 12 = s 386 12) (e388 : g' 388 = s 388)
    (hw : ∀ b, WFB s b 1600 → WFB g' b 1600) : ZR g' := by
  obtain ⟨b, h1, h2, h3, h4, h5⟩ := h
  obtain ⟨x1, x2, x3, x4, x5⟩ := hx
  have x6 := x1 b h2
  have hcs : ∀ v : Nat, (v : Int) ≠ a → Sur s v (s 388 b) → Sur g' v (s 388 b) := by
    intro v hv hs
    have hs0 : Sur g0 v (s 388 b) := by
      unfold Sur at hs ⊢
      rw [e419]
      exact hs
    have := hc.oth (by omega) hv x6.2 hs0
    unfold Sur at this ⊢
    rw [eg]
    exact this
  refine ⟨b, e12.trans h1, h2, hw b h3, ?_, fun k hk => ?_⟩
  · rw [e388]
    exact hcs 0 (by omega) h4
  · rw [e388]
    by_cases q : (k : Int) = u
    · have hs0 : Sur g0 0 (s 388 b) := by
        unfold Sur at h4 ⊢
        rw [e419]
        exact h4
      have := hc.sur x6.2 (show Sur g0 (0 : Int).toNat (s 388 b) from hs0)
      rw [show 2 + ((g' 386 64).toNat + k) % 20 = a.toNat by omega]
      unfold Sur at this ⊢
      rw [eg]
      exact this
    · rcases hu with ⟨u1, u2, u3⟩ | ⟨u1, u2, u3⟩
      · refine hcs _ (by omega) ?_
        rw [e64, u3]
        exact h5 k (by omega)
      · refine hcs _ (by omega) ?_
        have := h5 (k + 1) (by omega)
        rw [show 2 + ((g' 386 64).toNat + k) % 20 = 2 + ((s 386 64).toNat + (k + 1)) % 20 by omega]
        exact this
/-- the latest ACT is undone -/
theorem ZR.undo {s g0 g : zF} {u a : Int} (h : ZR s) (hx : BX s) (hc : CPY g0 0 a g) (e419 : g0 419 = s 419) (hu : u = s 386 65 - 1) (hu0 : s 386 65 ≠ 0) (ha : a = 2 + (s 386 64 + u) % 20) (e65 : g 386 65 = u) (e64 : g 386 64 = s 386 64) (e12 : g 386 12 = s 386 12) (e388 : g 388 = s 388)
    (hw : ∀ b, WFB s b 1600 → WFB g b 1600) : ZR g := by
  obtain ⟨b, h1, h2, h3, h4, h5⟩ := h
  obtain ⟨x1, x2, x3, x4, x5⟩ := hx
  have x6 := x1 b h2
  have hg0 : ∀ v N, Sur s v N → Sur g0 v N := by
    intro v N hs
    unfold Sur at hs ⊢
    rw [e419]
    exact hs
  refine ⟨b, e12.trans h1, h2, hw b h3, ?_, fun k hk => ?_⟩
  · rw [e388]
    have h6 := h5 u.toNat (by omega)
    rw [show 2 + ((s 386 64).toNat + u.toNat) % 20 = a.toNat by omega] at h6
    exact hc.sur x6.2 (hg0 _ _ h6)
  · rw [e388, e64]
    exact hc.oth (by omega) (by omega) x6.2 (hg0 _ _ (h5 k (by omega)))
/-- two BOYS change PLACES -/
theorem ZR.swap {s g' : zF} {p q : Int} (h : ZR s) (hx : BX s) (hp : 0 ≤ p ∧ p < s 388 (s 386 12).toNat) (hq : 0 ≤ q ∧ q < s 388 (s 386 12).toNat) (e : g' 419 = zup1 (zup1 (s 419) p.toNat (s 419 q.toNat)) q.toNat (s 419 p.toNat))
    (e12 : g' 386 12 = s 386 12) (e388 : g' 388 = s 388) (e64 : g' 386 64 = s 386 64) (e65 : g' 386 65 = s 386 65) (hw : ∀ b, WFB s b 1600 → WFB g' b 1600) : ZR g' := by
  obtain ⟨b, h1, h2, h3, h4, h5⟩ := h
  obtain ⟨x1, x2, x3, x4, x5⟩ := hx
  have x6 := x1 b h2
  rw [show (s 386 12).toNat = b by omega] at hp hq
  refine ⟨b, e12.trans h1, h2, hw b h3, ?_, fun k hk => ?_⟩
  · rw [e388]
    intro c hc
    obtain ⟨r, r1, r2⟩ := h4 c hc
    have r3 : 12 * 0 + r = r := by omega
    rw [r3] at r2
    by_cases z : r = p.toNat
    · refine ⟨q.toNat, by omega, ?_⟩
      rw [show 12 * 0 + q.toNat = q.toNat by omega, e, zup1_eq, ← z]
      exact r2
    · by_cases z2 : r = q.toNat
      · refine ⟨p.toNat, by omega, ?_⟩
        rw [show 12 * 0 + p.toNat = p.toNat by omega, e]
        by_cases z3 : p.toNat = q.toNat
        · exact absurd (z2.trans z3.symm) z
        · rw [zup1_ne z3, zup1_eq, ← z2]
          exact r2
      · refine ⟨r, r1, ?_⟩
        rw [r3, e, zup1_ne z2, zup1_ne z]
        exact r2
  · rw [e388, e64]
    rw [e65] at hk
    refine (h5 k hk).congr x6.2 (fun j hj => ?_)
    rw [e, zup1_ne (by omega), zup1_ne (by omega)]
/-- the order of the rows comes into force -/
theorem ZR.rows {s g' : zF} (h : ZR s) (hx : BX s) (hs : ∀ b : Nat, (b : Int) < s 388 (s 386 12).toNat → ∃ p : Nat, (p : Int) < s 388 (s 386 12).toNat ∧ g' 419 p = b) (ho : ∀ j : Nat, 12 ≤ j → g' 419 j = s 419 j)
    (e12 : g' 386 12 = s 386 12) (e388 : g' 388 = s 388) (e64 : g' 386 64 = s 386 64) (e65 : g' 386 65 = s 386 65) (hw : ∀ b, WFB s b 1600 → WFB g' b 1600) : ZR g' := by
  obtain ⟨b, h1, h2, h3, h4, h5⟩ := h
  obtain ⟨x1, x2, x3, x4, x5⟩ := hx
  have x6 := x1 b h2
  rw [show (s 386 12).toNat = b by omega] at hs
  refine ⟨b, e12.trans h1, h2, hw b h3, ?_, fun k hk => ?_⟩
  · rw [e388]
    intro c hc
    obtain ⟨p, p1, p2⟩ := hs c hc
    exact ⟨p, p1, by rw [show 12 * 0 + p = p by omega]; exact p2⟩
  · rw [e388, e64]
    rw [e65] at hk
    exact (h5 k hk).congr x6.2 (fun j hj => ho _ (by omega))
/-- rows that are an order of the BOYS -/
def SurR (g : zF) (N : Int) : Prop := ∀ b : Nat, (b : Int) < N → ∃ p : Nat, (p : Int) < N ∧ g 434 p = b
theorem SurR.swap {g g' : zF} {N p q : Int} (h : SurR g N) (hp : 0 ≤ p ∧ p < N) (hq : 0 ≤ q ∧ q < N) (e : g' 434 = zup1 (zup1 (g 434) p.toNat (g 434 q.toNat)) q.toNat (g 434 p.toNat)) : SurR g' N := by
  intro c hc
  obtain ⟨r, r1, r2⟩ := h c hc
  by_cases z : r = p.toNat
  · refine ⟨q.toNat, by omega, ?_⟩
    rw [e, zup1_eq, ← z]
    exact r2
  · by_cases z2 : r = q.toNat
    · refine ⟨p.toNat, by omega, ?_⟩
      rw [e]
      by_cases z3 : p.toNat = q.toNat
      · exact absurd (z2.trans z3.symm) z
      · rw [zup1_ne z3, zup1_eq, ← z2]
        exact r2
    · refine ⟨r, r1, ?_⟩
      rw [e, zup1_ne z2, zup1_ne z]
      exact r2
theorem SurR.of {g g' : zF} {N : Int} (h : SurR g N) (e : g' 434 = g 434) : SurR g' N := by
  unfold SurR at h ⊢
  rw [e]
  exact h
theorem ZR.rn {s g : zF} (h : ZR s) (r : RN s 0 g) : SurR g (s 388 (s 386 12).toNat) := by
  intro c hc
  obtain ⟨b, e, hb, hs⟩ := h.n
  rw [e] at hc
  obtain ⟨p, p1, p2⟩ := hs c hc
  refine ⟨p, by rw [e]; exact p1, ?_⟩
  rw [r.2 p (by rw [e]; exact p1)]
  exact p2
theorem ZR.cpy1 {s g : zF} (h : ZR s) (hx : BX s) (hc : CPY s 1 0 g) (f : zFr [(418, 433, 1000)] s g) : ZR g := by
  obtain ⟨b, h1, h2, h3, h4, h5⟩ := h
  have x6 := hx.1 b h2
  have e388 : g 388 = s 388 := f.a (by decide)
  have e64 : g 386 64 = s 386 64 := f.s (by decide)
  have e65 : g 386 65 = s 386 65 := f.s (by decide)
  refine ⟨b, (f.s (by decide)).trans h1, h2, h3.fr f (by decide), ?_, fun k hk => ?_⟩
  · rw [e388]
    exact hc.oth (by decide) (by decide) x6.2 h4
  · rw [e65] at hk
    rw [e388, e64]
    exact hc.oth (by decide) (by omega) x6.2 (h5 k hk)
