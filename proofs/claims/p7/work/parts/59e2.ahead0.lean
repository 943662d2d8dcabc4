/-! the next sign: what its loops keep -/
def wb (k w : Int) : Prop := 0 ≤ w ∧ (k = 0 ∧ w = 0 ∨ k = 1 ∧ w < 256 ∨ k = 2 ∧ w < 65536 ∨ k = 3 ∧ w < 16777216 ∨ k = 4 ∧ w < 4294967296 ∨ k = 5 ∧ w < 1099511627776 ∨ 6 ≤ k ∧ w < 281474976710656)
abbrev zDg (x : Int) : Prop := 48 ≤ x ∧ x ≤ 57
/-- letter, digit or neither -/
def LD (c l d : Int) : Prop := l = 1 ∧ d = 0 ∧ zLt c ∨ l = 0 ∧ d = 1 ∧ zDg c ∨ l = 0 ∧ d = 0
def AHN (s0 g : zF) (l : Int) : Prop := g 386 8 = 0 → l = 1 → 0 < g 386 4 → ¬ zLt (s0 387 (g 386 4 - 1).toNat)
def AH2 (s0 g : zF) (p l d m k kk : Int) : Prop := (g 386 2 = s0 386 2 ∧ s0 386 8 ≤ g 386 8 ∧ g 386 8 ≤ 5 ∧ s0 386 5 ≤ g 386 4 ∧ k = p - g 386 4 ∧ 0 ≤ k ∧ p ≤ s0 386 2 ∧ 0 ≤ s0 386 5 ∧ s0 386 2 ≤ 1600) ∧ ((l = 1 ∧ d = 0 ∧ m = 6 ∧ g 386 3 = 1 ∧ wb kk (g 386 7)) ∨ (l = 0 ∧ d = 1 ∧ m = 4 ∧ g 386 3 = 2)) ∧ AHN s0 g l
def AH200 (s0 g : zF) (p l d m k : Int) : Prop := AH2 s0 g p l d m k k ∧ ((k = 0 ∧ p < s0 386 2 ∧ (l = 1 ∧ zLt (s0 387 p.toNat) ∨ l = 0 ∧ zDg (s0 387 p.toNat))) ∨ (1 ≤ k ∧ (l = 1 → zLt (s0 387 (p - 1).toNat))))
def AH252 (s0 g : zF) (p l d m k kk : Int) : Prop := AH2 s0 g p l d m k kk ∧ p < s0 386 2 ∧ (l = 1 → zLt (s0 387 p.toNat))
def AH323 (s0 g : zF) (p : Int) : Prop := (g 386 2 = s0 386 2 ∧ s0 386 8 ≤ g 386 8 ∧ g 386 8 ≤ 5 ∧ s0 386 5 ≤ g 386 4 ∧ g 386 4 < p ∧ p ≤ s0 386 2 ∧ 1 ≤ g 386 3 ∧ g 386 3 ≤ 2 ∧ 0 ≤ s0 386 5 ∧ s0 386 2 ≤ 1600 ∧ 0 ≤ s0 386 8) ∧ (g 386 3 = 1 → zLt (s0 387 (p - 1).toNat) ∧ (65536 ≤ g 386 7 → g 386 4 + 3 ≤ p)) ∧ AHN s0 g (g 386 3)
theorem A_323 {s0 g : zF} {p l d m k : Int} (h : AH200 s0 g p l d m k) (h8 : 0 ≤ s0 386 8) (hx : s0 386 2 ≤ p ∨ ¬ l = 0 ∧ ¬ zLt (s0 387 p.toNat) ∨ l = 0 ∧ ¬ zDg (s0 387 p.toNat)) : AH323 s0 g p := by
  obtain ⟨⟨a, b, c⟩, e⟩ := h
  have hk : 1 ≤ k ∧ (l = 1 → zLt (s0 387 (p - 1).toNat)) := by
    rcases e with e | e
    · exfalso
      rcases b with b | b <;> omega
    · exact e
  rcases b with ⟨b1, b2, b3, b4, b5⟩ | ⟨b1, b2, b3, b4⟩
  · refine ⟨by omega, fun _ => ⟨hk.2 b1, fun z => ?_⟩, fun z1 _ => c z1 b1⟩
    unfold wb at b5
    omega
  · exact ⟨by omega, fun z => absurd (z.symm.trans b4) (by decide), fun _ z => absurd (z.symm.trans b4) (by decide)⟩
theorem A_252 {s0 g : zF} {p l d m k : Int} (h : AH200 s0 g p l d m k) (hp : p < s0 386 2) (hx : ¬ l = 0 → zLt (s0 387 p.toNat)) : AH252 s0 g p l d m k k := by
  obtain ⟨a, -⟩ := h
  refine ⟨a, hp, fun z => hx (by omega)⟩
theorem A_252b {s0 g g' : zF} {p l d m k kk : Int} (h : AH252 s0 g p l d m k kk) (e2 : g' 386 2 = g 386 2) (e3 : g' 386 3 = g 386 3) (e4 : g' 386 4 = g 386 4) (e7 : g' 386 7 = g 386 7) (e8 : g' 386 8 = 1) (h0 : s0 386 8 ≤ 1) : AH252 s0 g' p l d m k kk := by
  obtain ⟨⟨a, b, c⟩, e, f⟩ := h
  refine ⟨⟨by omega, ?_, fun z => by omega⟩, e, f⟩
  rw [e3, e7]
  exact b
theorem A_282 {s0 g g' : zF} {p l d m k y : Int} (h : AH252 s0 g p l d m k k) (hl : ¬ l = 0) (hk : k < m) (e2 : g' 386 2 = g 386 2) (e3 : g' 386 3 = g 386 3) (e4 : g' 386 4 = g 386 4) (e7 : g' 386 7 = 256 * g 386 7 + y) (e8 : g' 386 8 = g 386 8) (hy : 0 ≤ y ∧ y < 256) : AH252 s0 g' p l d m k (k + 1) := by
  obtain ⟨⟨a, b, c⟩, e, f⟩ := h
  refine ⟨⟨by omega, ?_, fun z => ?_⟩, e, f⟩
  · rw [e3, e7]
    rcases b with ⟨b1, b2, b3, b4, b5⟩ | b
    · refine Or.inl ⟨b1, b2, b3, b4, ?_⟩
      unfold wb at b5 ⊢
      omega
    · exact absurd b.1 hl
  · rw [e4]
    exact c (by omega)
theorem A_282n {s0 g : zF} {p l d m k : Int} (h : AH252 s0 g p l d m k k) (hx : m ≤ k ∨ l = 0) : AH252 s0 g p l d m k (k + 1) := by
  obtain ⟨⟨a, b, c⟩, e, f⟩ := h
  refine ⟨⟨a, ?_, c⟩, e, f⟩
  rcases b with ⟨b1, b2, b3, b4, b5⟩ | b
  · refine Or.inl ⟨b1, b2, b3, b4, ?_⟩
    unfold wb at b5 ⊢
    omega
  · exact Or.inr b
theorem A_val {s0 g g' : zF} {p l d m k kk : Int} (h : AH252 s0 g p l d m k kk) (e2 : g' 386 2 = g 386 2) (e3 : g' 386 3 = g 386 3) (e4 : g' 386 4 = g 386 4) (e7 : g' 386 7 = g 386 7) (e8 : g' 386 8 = g 386 8) : AH252 s0 g' p l d m k kk := by
  obtain ⟨⟨a, b, c⟩, e, f⟩ := h
  refine ⟨⟨by omega, ?_, fun z => ?_⟩, e, f⟩
  · rw [e3, e7]; exact b
  · rw [e4]
    exact c (by omega)
theorem A_200 {s0 g : zF} {p l d m k p' k' : Int} (h : AH252 s0 g p l d m k (k + 1)) (hp : p' = p + 1) (hk : k' = k + 1) : AH200 s0 g p' l d m k' := by
  subst hp hk
  obtain ⟨⟨a, b, c⟩, e, f⟩ := h
  refine ⟨⟨by omega, b, c⟩, Or.inr ⟨by omega, fun z => ?_⟩⟩
  rw [show p + 1 - 1 = p by omega]
  exact f z
theorem A_first {s0 g : zF} {p l d m : Int} (h1 : g 386 2 = s0 386 2 ∧ s0 386 8 ≤ g 386 8 ∧ g 386 8 ≤ 5 ∧ s0 386 5 ≤ g 386 4 ∧ p = g 386 4 ∧ p < s0 386 2 ∧ 0 ≤ s0 386 5 ∧ s0 386 2 ≤ 1600) (hl : LD (s0 387 p.toNat) l d) (hn : AHN s0 g l)
    (hm : l = 1 ∧ m = 6 ∧ g 386 3 = 1 ∧ g 386 7 = 0 ∨ l = 0 ∧ d = 1 ∧ m = 4 ∧ g 386 3 = 2) : AH200 s0 g p l d m 0 := by
  unfold LD at hl
  refine ⟨⟨by omega, ?_, hn⟩, Or.inl ⟨rfl, by omega, by omega⟩⟩
  rcases hm with hm | hm
  · exact Or.inl ⟨hm.1, by omega, hm.2.1, hm.2.2.1, by unfold wb; omega⟩
  · exact Or.inr hm
theorem A_end {s0 g g' : zF} {p : Int} (h : AH323 s0 g p) (e2 : g' 386 2 = g 386 2) (e3 : g' 386 3 = g 386 3) (e4 : g' 386 4 = g 386 4) (e5 : g' 386 5 = p) (e7 : g' 386 7 = g 386 7) (e8 : g' 386 8 = g 386 8) (e387 : g' 387 = s0 387) : AP s0 g' := by
  obtain ⟨a, b, c⟩ := h
  refine ⟨⟨by omega, by omega, by omega, by omega, by omega, by omega, by omega, fun _ => by omega, fun z => ?_, by omega, by omega⟩, by omega, by omega, by omega, fun z1 z2 z3 => ?_⟩
  · rw [e5, e387, e7, e4]
    exact b (by omega)
  · rw [e4]
    exact c (by omega) (by omega) (by omega)
theorem A_out {s0 g' : zF} (e2 : g' 386 2 = s0 386 2) (e3 : g' 386 3 = 0) (e5 : g' 386 5 = g' 386 4) (e4 : s0 386 5 ≤ g' 386 4) (e4b : g' 386 4 = s0 386 2) (e8 : g' 386 8 = s0 386 8) (h : 0 ≤ s0 386 5 ∧ s0 386 5 ≤ s0 386 2 ∧ s0 386 2 ≤ 1600 ∧ 0 ≤ s0 386 8 ∧ s0 386 8 ≤ 5) : AP s0 g' := by
  refine ⟨⟨by omega, by omega, by omega, by omega, by omega, by omega, by omega, fun z => by omega, fun z => by omega, by omega, by omega⟩, by omega, by omega, by omega, fun z1 z2 z3 => by omega⟩
theorem A_sign {s0 g' : zF} (e2 : g' 386 2 = s0 386 2) (e3 : g' 386 3 = 3) (e5 : g' 386 5 = g' 386 4 + 1) (e4 : s0 386 5 ≤ g' 386 4) (e4b : g' 386 4 < s0 386 2) (e8 : s0 386 8 ≤ g' 386 8 ∧ g' 386 8 ≤ 5) (h : 0 ≤ s0 386 5 ∧ s0 386 5 ≤ s0 386 2 ∧ s0 386 2 ≤ 1600 ∧ 0 ≤ s0 386 8 ∧ s0 386 8 ≤ 5) : AP s0 g' := by
  refine ⟨⟨by omega, by omega, by omega, by omega, by omega, by omega, by omega, fun z => by omega, fun z => by omega, by omega, by omega⟩, by omega, by omega, by omega, fun z1 z2 z3 => by omega⟩
