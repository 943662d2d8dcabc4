/-! orders by numbers, one after another -/
def Dst (f : Nat → Int) (N : Int) : Prop := ∀ p q : Nat, p < q → (q : Int) < N → f p ≠ f q
def Rg (f : Nat → Int) (N : Int) : Prop := ∀ p : Nat, (p : Int) < N → 0 ≤ f p ∧ f p ≤ 11
def vl (f : Nat → Int) : Nat → Int
  | 0 => 0
  | n + 1 => 12 * vl f n + f n
theorem vl_congr {f f' : Nat → Int} : ∀ {n : Nat}, (∀ p, p < n → f' p = f p) → vl f' n = vl f n
  | 0, _ => rfl
  | n + 1, h => by
    unfold vl
    rw [vl_congr (fun p hp => h p (by omega)), h n (by omega)]
theorem vl_lt {f f' : Nat → Int} {k : Nat} (h : ∀ p, p < k → f' p = f p) (hk : f k < f' k) : ∀ {n : Nat}, k < n → (∀ p, p < n → (0 ≤ f p ∧ f p ≤ 11) ∧ 0 ≤ f' p ∧ f' p ≤ 11) → vl f n < vl f' n := by
  intro n
  induction n with
  | zero => intro z; omega
  | succ n ih =>
    intro hn hb
    have h1 := hb n (by omega)
    show 12 * vl f n + f n < 12 * vl f' n + f' n
    by_cases q : n = k
    · subst q
      rw [vl_congr h]
      omega
    · have := ih (by omega) (fun p hp => hb p (by omega))
      omega
theorem vl_b {f : Nat → Int} : ∀ {n : Nat}, (∀ p, p < n → 0 ≤ f p ∧ f p ≤ 11) → 0 ≤ vl f n
  | 0, _ => Int.le_refl _
  | n + 1, h => by
    have := vl_b (n := n) (fun p hp => h p (by omega))
    have := h n (by omega)
    unfold vl
    omega
theorem vl_6 {f : Nat → Int} {n : Nat} (hn : n ≤ 6) (h : ∀ p, p < n → 0 ≤ f p ∧ f p ≤ 11) : vl f n ≤ 2985983 := by
  have hs : ∀ m : Nat, m ≤ n → vl f m ≤ 12 ^ m - 1 := by
    intro m
    induction m with
    | zero => exact fun _ => Int.le_refl _
    | succ m ih =>
      intro hm
      have := ih (by omega)
      have := h m (by omega)
      show 12 * vl f m + f m ≤ 12 ^ (m + 1) - 1
      rw [Int.pow_succ]
      omega
  have h1 := hs n (Nat.le_refl _)
  have h2 : ∀ m : Nat, m ≤ 6 → (12 : Int) ^ m ≤ 2985984 := by decide
  have := h2 n hn
  omega
theorem zup1_swap {f : Nat → Int} {p q i : Nat} : zup1 (zup1 f p (f q)) q (f p) i = f (if i = q then p else if i = p then q else i) := by
  rw [zup1_app]
  by_cases h : i = q
  · rw [if_pos h, if_pos h]
  · rw [if_neg h, if_neg h, zup1_app]
    by_cases h2 : i = p
    · rw [if_pos h2, if_pos h2]
    · rw [if_neg h2, if_neg h2]
theorem Rg.swap {f : Nat → Int} {N p q : Int} (h : Rg f N) (hp : 0 ≤ p ∧ p < N) (hq : 0 ≤ q ∧ q < N) : Rg (zup1 (zup1 f p.toNat (f q.toNat)) q.toNat (f p.toNat)) N := by
  intro i hi
  rw [zup1_swap]
  refine h _ ?_
  split
  · omega
  · split <;> omega
theorem Dst.ne {f : Nat → Int} {N : Int} (h : Dst f N) {p q : Nat} (hn : p ≠ q) (hp : (p : Int) < N) (hq : (q : Int) < N) : f p ≠ f q := by
  by_cases z : p < q
  · exact h p q z hq
  · exact fun y => h q p (by omega) hp y.symm
theorem Dst.swap {f : Nat → Int} {N p q : Int} (h : Dst f N) (hp : 0 ≤ p ∧ p < N) (hq : 0 ≤ q ∧ q < N) : Dst (zup1 (zup1 f p.toNat (f q.toNat)) q.toNat (f p.toNat)) N := by
  intro i j hij hj
  rw [zup1_swap, zup1_swap]
  refine h.ne ?_ ?_ ?_
  · repeat' split
    all_goals omega
  · repeat' split
    all_goals omega
  · repeat' split
    all_goals omega
/-- behind the place k the order has grown -/
def Grw (f f' : Nat → Int) (N : Int) (k : Nat) : Prop := (∀ p, p < k → f' p = f p) ∧ f k < f' k ∧ (k : Int) < N
theorem Grw.swap {f g g' : Nat → Int} {N a b : Int} {k : Nat} (h : Grw f g N k) (ha : (k : Int) < a) (hb : (k : Int) < b) (e : g' = zup1 (zup1 g a.toNat (g b.toNat)) b.toNat (g a.toNat)) : Grw f g' N k := by
  obtain ⟨h1, h2, h3⟩ := h
  subst e
  refine ⟨fun p hp => ?_, ?_, h3⟩
  · rw [zup1_ne (by omega), zup1_ne (by omega)]
    exact h1 p hp
  · rw [zup1_ne (by omega), zup1_ne (by omega)]
    exact h2
theorem Grw.vl {f f' : Nat → Int} {N : Int} {k : Nat} (h : Grw f f' N k) (r : Rg f N) (r' : Rg f' N) : vl f N.toNat < vl f' N.toNat := by
  obtain ⟨h1, h2, h3⟩ := h
  exact vl_lt h1 h2 (by omega) (fun p hp => ⟨r p (by omega), r' p (by omega)⟩)
def zsh (f : Nat → Int) : Nat → Int := fun i => f i + 1
theorem Rg.up {f : Nat → Int} {N x : Int} {i : Nat} (h : Rg (zsh f) N) (hx : 0 ≤ x + 1 ∧ x + 1 ≤ 11) : Rg (zsh (zup1 f i x)) N := by
  intro p hp
  show 0 ≤ zup1 f i x p + 1 ∧ zup1 f i x p + 1 ≤ 11
  rw [zup1_app]
  by_cases q : p = i
  · rw [if_pos q]
    exact hx
  · rw [if_neg q]
    exact h p hp
