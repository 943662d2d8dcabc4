/-! the reference's reader of SUMS and TESTS: what its stacks hold, in numbers -/
def zup1 (f : Nat → Int) (k : Nat) (v : Int) : Nat → Int := fun i => if i = k then v else f i
theorem zup1_app {f : Nat → Int} {k i : Nat} {v : Int} : zup1 f k v i = if i = k then v else f i := rfl
theorem zup1_eq {f : Nat → Int} {k : Nat} {v : Int} : zup1 f k v k = v := by
  rw [zup1_app, if_pos rfl]
theorem zup1_ne {f : Nat → Int} {k i : Nat} {v : Int} (h : i ≠ k) : zup1 f k v i = f i := by
  rw [zup1_app, if_neg h]
theorem zup1_self {f : Nat → Int} {k : Nat} : zup1 f k (f k) = f := by
  funext i
  rw [zup1_app]
  split
  · rename_i h; rw [h]
  · rfl
theorem zup_app {s : zF} {a k a' : Nat} {v : Int} : zup s a k v a' = if a' = a then zup1 (s a') k v else s a' := by
  funext k'
  unfold zup
  by_cases h : a' = a
  · rw [if_pos h, zup1_app]
    by_cases h2 : k' = k
    · rw [if_pos ⟨h, h2⟩, if_pos h2]
    · rw [if_neg (fun z => h2 z.2), if_neg h2]
  · rw [if_neg h, if_neg (fun z => h z.1)]
def rk (x : Int) : Int := if x = 21 then 1 else if x = 20 then 2 else if x = 22 then 3 else if x = 17 ∨ x = 18 ∨ x = 19 then 4 else if x = 10 ∨ x = 11 then 5 else 6
theorem rk_b (x : Int) : 1 ≤ rk x ∧ rk x ≤ 6 := by
  unfold rk
  repeat' split
  all_goals omega
theorem rk_3 {x : Int} (h : rk x = 3) : x = 22 := by
  unfold rk at h
  repeat' split at h
  all_goals omega
def cap (r : Int) : Int := if r ≤ 1 then 1 else if r ≤ 3 then 2 else if r ≤ 4 then 3 else if r ≤ 5 then 4 else 5
def cb (op : Nat → Int) : Nat → Int
  | 0 => 0
  | n + 1 => cb op n + (if op n = 22 then 0 else 1)
def c4 (fr : Nat → Int) : Nat → Int
  | 0 => 0
  | n + 1 => c4 fr n + (if fr n = 4 then 1 else 0)
theorem cb_congr {op op' : Nat → Int} : ∀ {n : Nat}, (∀ i, i < n → op' i = op i) → cb op' n = cb op n
  | 0, _ => rfl
  | n + 1, h => by
    unfold cb
    rw [cb_congr (fun i hi => h i (by omega)), h n (by omega)]
theorem c4_congr {fr fr' : Nat → Int} : ∀ {n : Nat}, (∀ i, i < n → fr' i = fr i) → c4 fr' n = c4 fr n
  | 0, _ => rfl
  | n + 1, h => by
    unfold c4
    rw [c4_congr (fun i hi => h i (by omega)), h n (by omega)]
theorem cb_b {op : Nat → Int} : ∀ n : Nat, 0 ≤ cb op n ∧ cb op n ≤ n
  | 0 => ⟨Int.le_refl _, Int.le_refl _⟩
  | n + 1 => by
    have := cb_b (op := op) n
    unfold cb
    split <;> omega
theorem c4_b {fr : Nat → Int} : ∀ n : Nat, 0 ≤ c4 fr n
  | 0 => Int.le_refl _
  | n + 1 => by
    have := c4_b (fr := fr) n
    unfold c4
    split <;> omega
theorem cb_s {op : Nat → Int} {n : Nat} : cb op (n + 1) = cb op n + (if op n = 22 then 0 else 1) := rfl
theorem c4_s {fr : Nat → Int} {n : Nat} : c4 fr (n + 1) = c4 fr n + (if fr n = 4 then 1 else 0) := rfl
def zE2 (D n : Nat) (bs : Nat → Int) (f : Nat) : Int := if f + 1 < D then bs (f + 1) else (n : Int)
/-- the stacks: frames, phases, begins, bases, operators -/
def ST (D n : Nat) (fr ph bg bs op : Nat → Int) (o : Int) : Prop :=
  1 ≤ D ∧ fr 0 ≤ 1 ∧
  (∀ f f' : Nat, f ≤ f' → f' < D → bs f ≤ bs f') ∧ bs (D - 1) ≤ n ∧ 0 ≤ bs 0 ∧
  (∀ f : Nat, f < D → cb op (bs f).toNat ≤ 5 * f) ∧
  (∀ f i : Nat, f < D → bs f ≤ i → (i : Int) < zE2 D n bs f →
    cb op (i + 1) ≤ 5 * f + cap (rk (op i)) ∧ (∀ j : Nat, bs f ≤ j → j < i → rk (op j) ≤ rk (op i)) ∧ (ph f = 0 → rk (op i) ≠ 4) ∧ (bg f = 1 → rk (op i) ≤ 3)) ∧
  (∀ f : Nat, f + 1 < D → bg f ≠ 1) ∧ (o = 1 → bg (D - 1) ≠ 1) ∧ (∀ i : Nat, i < n → 10 ≤ op i)
theorem cap_b (r : Int) : 1 ≤ cap r ∧ cap r ≤ 5 := by
  unfold cap
  repeat' split
  all_goals omega
theorem ST.top {D n : Nat} {fr ph bg bs op : Nat → Int} {o : Int} (h : ST D n fr ph bg bs op o) : cb op n ≤ 5 * D := by
  obtain ⟨h1, h2, h3, h4, h5, h6, h7, -⟩ := h
  have hb := h3 0 (D - 1) (by omega) (by omega)
  by_cases q : bs (D - 1) = n
  · have := h6 (D - 1) (by omega)
    rw [q] at this
    simp only [Int.toNat_natCast] at this
    omega
  · have h8 := (h7 (D - 1) (n - 1) (by omega) (by omega) (by unfold zE2; rw [if_neg (by omega)]; omega)).1
    rw [show n - 1 + 1 = n by omega] at h8
    have := (cap_b (rk (op (n - 1)))).2
    omega
theorem ST.pop {D n : Nat} {fr ph bg bs op : Nat → Int} {o : Int} (h : ST D (n + 1) fr ph bg bs op o) (hb : bs (D - 1) ≤ n) : ST D n fr ph bg bs op o := by
  obtain ⟨h1, h2, h3, h4, h5, h6, h7, h8, h9, h10⟩ := h
  refine ⟨h1, h2, h3, hb, h5, h6, fun f i hf hi hE => h7 f i hf hi ?_, h8, h9, fun i hi => h10 i (by omega)⟩
  unfold zE2 at hE ⊢
  split
  · rename_i q; rw [if_pos q] at hE; exact hE
  · rename_i q; rw [if_neg q] at hE; omega
theorem ST.push {D n : Nat} {fr ph bg bs op : Nat → Int} {o o' x p b : Int} (h : ST D n fr ph bg bs op o) (hx : 10 ≤ x)
    (ht : ∀ i : Nat, bs (D - 1) ≤ i → i < n → rk (op i) < rk x ∨ (x = 22 ∧ rk (op i) ≤ 3))
    (hp : p = 0 → rk x ≠ 4 ∧ ∀ i : Nat, bs (D - 1) ≤ i → i < n → rk (op i) ≠ 4)
    (hb : b = 1 → rk x ≤ 3 ∧ ∀ i : Nat, bs (D - 1) ≤ i → i < n → rk (op i) ≤ 3) (ho : o' = 1 → b ≠ 1) :
    ST D (n + 1) fr (zup1 ph (D - 1) p) (zup1 bg (D - 1) b) bs (zup1 op n x) o' := by
  obtain ⟨h1, h2, h3, h4, h5, h6, h7, h8, h9, h10⟩ := h
  have hle : ∀ f : Nat, f < D → bs f ≤ n := fun f hf => Int.le_trans (h3 f (D - 1) (by omega) (by omega)) h4
  have hge : ∀ f : Nat, f < D → 0 ≤ bs f := fun f hf => Int.le_trans h5 (h3 0 f (by omega) hf)
  have hcb : ∀ m : Nat, m ≤ n → cb (zup1 op n x) m = cb op m := fun m hm => cb_congr (fun i hi => zup1_ne (by omega))
  refine ⟨h1, h2, h3, by omega, h5, ?_, ?_, ?_, ?_, ?_⟩
  · intro f hf
    have := hle f hf
    have := hge f hf
    rw [hcb _ (by omega)]
    exact h6 f hf
  · intro f i hf hi hE
    by_cases hfD : f + 1 < D
    · have hE2 : (i : Int) < bs (f + 1) := by
        unfold zE2 at hE; rw [if_pos hfD] at hE; exact hE
      have h11 := hle (f + 1) hfD
      have h12 := h7 f i hf hi (by unfold zE2; rw [if_pos hfD]; exact hE2)
      rw [hcb _ (by omega), zup1_ne (by omega), zup1_ne (by omega : f ≠ D - 1), zup1_ne (by omega : f ≠ D - 1)]
      refine ⟨h12.1, fun j hj hji => ?_, h12.2.2⟩
      rw [zup1_ne (by omega)]
      exact h12.2.1 j hj hji
    · have hfe : f = D - 1 := by omega
      subst hfe
      have hE2 : i < n + 1 := by
        unfold zE2 at hE; rw [if_neg hfD] at hE; omega
      by_cases hin : i = n
      · subst hin
        rw [cb_s, hcb _ (Nat.le_refl _), zup1_eq, zup1_eq, zup1_eq]
        refine ⟨?_, fun j hj hji => ?_, fun z => (hp z).1, fun z => (hb z).1⟩
        · by_cases q : bs (D - 1) = i
          · have h11 := h6 (D - 1) hf
            rw [q] at h11
            simp only [Int.toNat_natCast] at h11
            have := (cap_b (rk x)).1
            split <;> omega
          · have hbs0 := hge (D - 1) hf
            have h12 := (h7 (D - 1) (i - 1) hf (by omega) (by unfold zE2; rw [if_neg hfD]; omega)).1
            rw [show i - 1 + 1 = i by omega] at h12
            have h13 := ht (i - 1) (by omega) (by omega)
            have h14 := rk_b (op (i - 1))
            have h15 := rk_b x
            by_cases hx2 : x = 22
            · rw [if_pos hx2]
              have hr : rk x = 3 := by subst hx2; rfl
              rw [hr] at h13 ⊢
              have h16 : rk (op (i - 1)) ≤ 3 := by omega
              have : cap (rk (op (i - 1))) ≤ cap 3 := by
                unfold cap
                repeat' split
                all_goals omega
              omega
            · rw [if_neg hx2]
              have h16 : rk (op (i - 1)) < rk x := h13.resolve_right (fun z => hx2 z.1)
              have hr : rk x ≠ 3 := fun z => hx2 (rk_3 z)
              have : cap (rk (op (i - 1))) + 1 ≤ cap (rk x) := by
                unfold cap
                repeat' split
                all_goals omega
              omega
        · rw [zup1_ne (by omega)]
          rcases ht j hj hji with z | z
          · omega
          · obtain ⟨rfl, z⟩ := z
            exact z
      · have h12 := h7 (D - 1) i hf hi (by unfold zE2; rw [if_neg hfD]; omega)
        rw [hcb _ (by omega), zup1_ne hin, zup1_eq, zup1_eq]
        refine ⟨h12.1, fun j hj hji => ?_, fun z => (hp z).2 i hi (by omega), fun z => (hb z).2 i hi (by omega)⟩
        rw [zup1_ne (by omega)]
        exact h12.2.1 j hj hji
  · intro f hf
    rw [zup1_ne (by omega)]
    exact h8 f hf
  · rw [zup1_eq]
    exact ho
  · intro i hi
    rw [zup1_app]
    split
    · exact hx
    · exact h10 i (by omega)
theorem ST.frame {D n : Nat} {fr ph bg bs op : Nat → Int} {o k : Int} (h : ST D n fr ph bg bs op o) (hg : bg (D - 1) ≠ 1) :
    ST (D + 1) n (zup1 fr D k) (zup1 ph D 0) (zup1 bg D 1) (zup1 bs D n) op 0 := by
  have htop := h.top
  obtain ⟨h1, h2, h3, h4, h5, h6, h7, h8, h9, h10⟩ := h
  refine ⟨by omega, by rw [zup1_ne (by omega)]; exact h2, ?_, ?_, by rw [zup1_ne (by omega)]; exact h5, ?_, ?_, ?_, fun z => absurd z (by decide), h10⟩
  · intro f f' hf hf'
    by_cases q : f' = D
    · subst q
      rw [zup1_eq]
      by_cases q2 : f = f'
      · subst q2; rw [zup1_eq]; exact Int.le_refl _
      · rw [zup1_ne q2]
        exact Int.le_trans (h3 f (f' - 1) (by omega) (by omega)) h4
    · rw [zup1_ne q, zup1_ne (by omega)]
      exact h3 f f' hf (by omega)
  · rw [show D + 1 - 1 = D by omega, zup1_eq]
    exact Int.le_refl _
  · intro f hf
    by_cases q : f = D
    · subst q
      rw [zup1_eq]
      simp only [Int.toNat_natCast]
      exact htop
    · rw [zup1_ne q]
      exact h6 f (by omega)
  · intro f i hf hi hE
    by_cases q : f = D
    · subst q
      rw [zup1_eq] at hi
      unfold zE2 at hE
      rw [if_neg (by omega)] at hE
      omega
    · rw [zup1_ne q] at hi
      rw [zup1_ne q, zup1_ne q, zup1_ne q]
      have hE2 : (i : Int) < zE2 D n bs f := by
        unfold zE2 at hE ⊢
        rw [if_pos (by omega)] at hE
        by_cases q2 : f + 1 < D
        · rw [if_pos q2]
          rw [zup1_ne (by omega)] at hE
          exact hE
        · rw [if_neg q2]
          rw [show f + 1 = D by omega, zup1_eq] at hE
          exact hE
      have h12 := h7 f i (by omega) hi hE2
      exact h12
  · intro f hf
    rw [zup1_ne (by omega)]
    by_cases q : f + 1 < D
    · exact h8 f q
    · rw [show f = D - 1 by omega]
      exact hg
theorem ST.close {D n : Nat} {fr ph bg bs op : Nat → Int} {o p : Int} (h : ST (D + 1) n fr ph bg bs op o) (hD : 1 ≤ D) (hn : bs D = n) (hp : p = ph (D - 1) ∨ p ≠ 0) :
    ST D n fr (zup1 ph (D - 1) p) bg bs op 1 := by
  obtain ⟨h1, h2, h3, h4, h5, h6, h7, h8, h9, h10⟩ := h
  refine ⟨hD, h2, fun f f' hf hf' => h3 f f' hf (by omega), ?_, h5, fun f hf => h6 f (by omega), ?_, fun f hf => h8 f (by omega), fun _ => h8 (D - 1) (by omega), h10⟩
  · rw [← hn]
    exact h3 (D - 1) D (by omega) (by omega)
  · intro f i hf hi hE
    have hE2 : (i : Int) < zE2 (D + 1) n bs f := by
      unfold zE2 at hE ⊢
      rw [if_pos (by omega)]
      by_cases q2 : f + 1 < D
      · rw [if_pos q2] at hE; exact hE
      · rw [if_neg q2] at hE
        rw [show f + 1 = D by omega, hn]
        exact hE
    have h12 := h7 f i (by omega) hi hE2
    refine ⟨h12.1, h12.2.1, fun z => ?_, h12.2.2.2⟩
    by_cases q : f = D - 1
    · subst q
      rw [zup1_eq] at z
      rcases hp with hp | hp
      · exact h12.2.2.1 (hp ▸ z)
      · exact absurd z hp
    · rw [zup1_ne q] at z
      exact h12.2.2.1 z
theorem ST.fr {D n f : Nat} {fr ph bg bs op : Nat → Int} {o k : Int} (h : ST D n fr ph bg bs op o) (hf : 1 ≤ f) : ST D n (zup1 fr f k) ph bg bs op o := by
  obtain ⟨h1, h2, h3⟩ := h
  exact ⟨h1, by rw [zup1_ne (by omega)]; exact h2, h3⟩
theorem ST.bg0 {D n : Nat} {fr ph bg bs op : Nat → Int} {o o' : Int} (h : ST D n fr ph bg bs op o) : ST D n fr ph (zup1 bg (D - 1) 0) bs op o' := by
  obtain ⟨h1, h2, h3, h4, h5, h6, h7, h8, h9, h10⟩ := h
  refine ⟨h1, h2, h3, h4, h5, h6, fun f i hf hi hE => ?_, fun f hf => by rw [zup1_ne (by omega)]; exact h8 f hf, fun _ => by rw [zup1_eq]; decide, h10⟩
  have h12 := h7 f i hf hi hE
  refine ⟨h12.1, h12.2.1, h12.2.2.1, fun z => ?_⟩
  by_cases q : f = D - 1
  · subst q
    rw [zup1_eq] at z
    exact absurd z (by decide)
  · rw [zup1_ne q] at z
    exact h12.2.2.2 z
theorem ST.ph2 {D n : Nat} {fr ph bg bs op : Nat → Int} {o p : Int} (h : ST D n fr ph bg bs op o) (hp : p ≠ 0) : ST D n fr (zup1 ph (D - 1) p) bg bs op o := by
  obtain ⟨h1, h2, h3, h4, h5, h6, h7, h8, h9, h10⟩ := h
  refine ⟨h1, h2, h3, h4, h5, h6, fun f i hf hi hE => ?_, h8, h9, h10⟩
  have h12 := h7 f i hf hi hE
  refine ⟨h12.1, h12.2.1, fun z => ?_, h12.2.2.2⟩
  by_cases q : f = D - 1
  · subst q
    rw [zup1_eq] at z
    exact absurd z hp
  · rw [zup1_ne q] at z
    exact h12.2.2.1 z
theorem ST.o0 {D n : Nat} {fr ph bg bs op : Nat → Int} {o : Int} (h : ST D n fr ph bg bs op o) : ST D n fr ph bg bs op 0 := by
  obtain ⟨h1, h2, h3, h4, h5, h6, h7, h8, h9, h10⟩ := h
  exact ⟨h1, h2, h3, h4, h5, h6, h7, h8, fun z => absurd z (by decide), h10⟩
/-- the height of a code from p on, after n steps; none where a step lacks what it needs -/
def zH (cs : Nat → Int) (p : Nat) : Nat → Option Int
  | 0 => some 0
  | n + 1 => match zH cs p n with
    | none => none
    | some h => if cs (p + n) ≤ 9 then some (h + 1) else if cs (p + n) = 22 then (if 1 ≤ h then some h else none) else if 2 ≤ h then some (h - 1) else none
theorem zH_congr {cs cs' : Nat → Int} {p : Nat} : ∀ {n : Nat}, (∀ i, i < n → cs' (p + i) = cs (p + i)) → zH cs' p n = zH cs p n
  | 0, _ => rfl
  | n + 1, h => by
    unfold zH
    rw [zH_congr (fun i hi => h i (by omega)), h n (by omega)]
theorem zH_s {cs : Nat → Int} {p n : Nat} {h : Int} (e : zH cs p n = some h) : zH cs p (n + 1) = if cs (p + n) ≤ 9 then some (h + 1) else if cs (p + n) = 22 then (if 1 ≤ h then some h else none) else if 2 ≤ h then some (h - 1) else none := by
  rw [zH, e]
theorem zH_pre {cs : Nat → Int} {p n : Nat} (h : zH cs p (n + 1) ≠ none) : zH cs p n ≠ none := by
  intro e
  rw [zH, e] at h
  exact h rfl
theorem zH_le {cs : Nat → Int} {p : Nat} : ∀ {n m : Nat}, n ≤ m → zH cs p m ≠ none → zH cs p n ≠ none := by
  intro n m h
  induction m with
  | zero => rw [show n = 0 by omega]; exact fun z => z
  | succ m ih =>
    intro z
    by_cases q : n = m + 1
    · rw [q]; exact z
    · exact ih (by omega) (zH_pre z)
theorem zH_b {cs : Nat → Int} {p : Nat} : ∀ {n : Nat} {h : Int}, zH cs p n = some h → 0 ≤ h ∧ h ≤ n := by
  intro n
  induction n with
  | zero => intro h e; cases e; omega
  | succ n ih =>
    intro h e
    unfold zH at e
    split at e
    · cases e
    · rename_i h' e'
      have := ih e'
      split at e
      · cases e; omega
      · split at e
        · split at e
          · cases e; omega
          · cases e
        · split at e
          · cases e; omega
          · cases e
theorem zH_0 {cs : Nat → Int} {p : Nat} : zH cs p 0 = some 0 := rfl
