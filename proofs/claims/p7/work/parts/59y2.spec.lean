/-! what a text must hold, token by token: the next token, or the FAULT -/
abbrev zP : Type := Nat ⊕ (Int × Int)
abbrev zK : Type := (Nat → Int) × (Nat → Int) × (Nat → Int)
def zbd (r : zP) (F : Nat → zP) : zP := match r with
  | .inl i => F i
  | .inr f => .inr f
def toks (s : zF) : zK := (s 4, s 5, s 6)
theorem toks_fr {R : zRL} {s s' : zF} (h : zFr R s s') (n : (zNA R 4 && zNA R 5 && zNA R 6) = true) : toks s' = toks s := by
  rw [Bool.and_eq_true, Bool.and_eq_true] at n
  unfold toks
  rw [h.a n.1.1, h.a n.1.2, h.a n.2]
theorem toks_up {s : zF} {a k : Nat} {v : Int} (n : 6 < a ∨ a < 4) : toks (zup s a k v) = toks s := by
  unfold toks
  rw [zup_na (by omega), zup_na (by omega), zup_na (by omega)]
def W5l : List Int := [5360102, 679716023, 9060516, 5342608, 189446445, 172280994, 667814, 26082, 626831, 20329136, 643382739, 21609735, 11634067, 641, 13669956, 7860, 20597804, 643419184, 642096, 529572, 464151, 591, 4545, 20974, 12673, 14637, 24621]
def W5 (w : Nat) : Int := W5l.getD w 0
/-- the Reader's own words are what its constructor made them -/
def OWS (s : zF) : Prop := ∀ k : Nat, k < 27 → s 3 k = W5 k
def owG : List Int → Int → Int → Int
  | [], _, _ => -1
  | c :: l, n, v => if v = c then n else owG l (n + 1) v
def owI (v : Int) : Int := owG W5l 0 v
theorem owG_none {v : Int} : ∀ (l : List Int) (n : Int), (∀ c ∈ l, c ≠ v) → owG l n v = -1 := by
  intro l
  induction l with
  | nil => intro n h; rfl
  | cons c l ih =>
    intro n h
    show (if v = c then n else owG l (n + 1) v) = -1
    rw [if_neg (fun e => h c List.mem_cons_self e.symm)]
    exact ih (n + 1) (fun d hd => h d (List.mem_cons_of_mem _ hd))
theorem W5_own : ∀ w : Nat, w < 27 → owI (W5 w) = (w : Int) := by decide
theorem W5_none {v : Int} (h : ∀ k : Nat, k < 27 → W5 k ≠ v) : owI v = -1 := by
  refine owG_none _ _ (fun c hc => ?_)
  obtain ⟨k, hk⟩ := List.mem_iff_getElem?.mp hc
  have hl : k < 27 := by
    have := (List.getElem?_eq_some_iff.mp hk).1
    exact this
  have e : W5 k = c := by
    unfold W5
    rw [List.getD_eq_getElem?_getD, hk]
    rfl
  rw [← e]
  exact h k hl
theorem owI_of {v : Int} (h : owI v ≠ -1) : ∃ w : Nat, w < 27 ∧ v = W5 w ∧ owI v = (w : Int) := by
  by_cases z : ∃ k : Nat, k < 27 ∧ W5 k = v
  · obtain ⟨k, h1, h2⟩ := z
    exact ⟨k, h1, h2.symm, by rw [← h2]; exact W5_own k h1⟩
  · exact absurd (W5_none (fun k hk e => z ⟨k, hk, e⟩)) h
def tokI (t : zK) (i : Nat) : Int := if t.1 i = 2 then owI (t.2.1 i) else -1
def flt (t : zK) (i : Nat) : Int × Int := (1, if t.1 i = 1 then t.2.1 i else t.2.2 i)
def nOw (t : zK) (w : Int) (i : Nat) : zP := if tokI t i = w then .inl (i + 1) else .inr (flt t i)
def nNu (t : zK) (lo hi : Int) (i : Nat) : zP := if t.1 i = 4 then (if t.2.1 i < lo ∨ hi < t.2.1 i then .inr (4, t.2.2 i) else .inl (i + 1)) else .inr (flt t i)
def nNa (t : zK) (tk : Int → Bool) (i : Nat) : zP := if t.1 i = 2 ∧ tokI t i = -1 then (if tk (t.2.1 i) then .inr (2, t.2.2 i) else .inl (i + 1)) else .inr (flt t i)
def isSg (t : zK) (c : Int) (i : Nat) : Prop := t.1 i = 5 ∧ t.2.1 i = c
/-- the Reader stands at a token -/
def TW (s : zF) : Prop := 0 ≤ s 2 7 ∧ s 2 7 < s 2 6 ∧ s 2 6 ≤ 1601 ∧ (s 4 (s 2 6 - 1).toNat = 0 ∨ s 4 (s 2 6 - 1).toNat = 1)
def stp (s : zF) : zF := if s 2 7 < s 2 6 - 1 then zup s 2 7 (s 2 7 + 1) else s
theorem TW_lt {s : zF} (h : TW s) (h0 : s 4 (s 2 7).toNat ≠ 0) (h1 : s 4 (s 2 7).toNat ≠ 1) : s 2 7 < s 2 6 - 1 := by
  obtain ⟨a, b, -, c⟩ := h
  by_cases z : s 2 7 = s 2 6 - 1
  · rw [← z] at c
    omega
  · omega
theorem TW_stp {s : zF} (h : TW s) (h0 : s 4 (s 2 7).toNat ≠ 0) (h1 : s 4 (s 2 7).toNat ≠ 1) : stp s = zup s 2 7 (s 2 7 + 1) ∧ TW (zup s 2 7 (s 2 7 + 1)) ∧ (zup s 2 7 (s 2 7 + 1) 2 7).toNat = (s 2 7).toNat + 1 := by
  have hl := TW_lt h h0 h1
  obtain ⟨a, b, b2, c⟩ := h
  refine ⟨if_pos hl, ?_, ?_⟩
  · unfold TW
    rw [zup_eq, zup_ne (Or.inr (by decide)), zup_ne (Or.inl (by decide))]
    exact ⟨by omega, by omega, b2, c⟩
  · rw [zup_eq]
    omega
/-- what a method of the Reader answers, held against what is due -/
def PO (r : zP) (v : Int) (g : zF) : Prop := v = 1 ∧ r = .inl (g 2 7).toNat ∧ TW g ∨ v = 0 ∧ r = .inr (g 2 0, g 2 1)
theorem PO_1 {r : zP} {v : Int} {g : zF} (h : PO r v g) (hv : ¬ v = 0) : r = .inl (g 2 7).toNat ∧ TW g := by
  rcases h with ⟨-, h⟩ | ⟨h, -⟩
  · exact h
  · exact absurd h hv
theorem PO_0 {r : zP} {v : Int} {g : zF} (h : PO r v g) (hv : v = 0) : r = .inr (g 2 0, g 2 1) := by
  rcases h with ⟨h, -⟩ | ⟨-, h⟩
  · omega
  · exact h
/-- TW depends on few cells -/
theorem TW_fr {s s' : zF} (h : TW s) (e7 : s' 2 7 = s 2 7) (e6 : s' 2 6 = s 2 6) (e4 : s' 4 = s 4) : TW s' := by
  unfold TW
  rw [e7, e6, e4]
  exact h
/-- is the name taken in the Dorm b -/
def tknB (s : zF) (b : Nat) (x : Int) : Bool := ((List.range (s b 1).toNat).any fun k => s (b + 1) k == x) || ((List.range (s b 2).toNat).any fun k => s (b + 7) k == x)
theorem any_F {f : Nat → Int} {n : Nat} {x : Int} (h : ∀ k : Nat, k < n → f k ≠ x) : ((List.range n).any fun k => f k == x) = false := by
  rw [List.any_eq_false]
  intro k hk
  rw [beq_iff_eq]
  exact h k (List.mem_range.mp hk)
theorem any_T {f : Nat → Int} {n : Nat} {x : Int} {k : Nat} (h : k < n) (e : f k = x) : ((List.range n).any fun k => f k == x) = true := by
  rw [List.any_eq_true]
  exact ⟨k, List.mem_range.mpr h, by rw [beq_iff_eq]; exact e⟩
theorem flt_q {s g : zF} {i : Nat} (h : (g 2 0, g 2 1) = ((1 : Int), if (1 : Int) = 1 ∧ s 4 i = 1 then s 5 i else s 6 i)) : (g 2 0, g 2 1) = flt (toks s) i := by
  rw [h]
  unfold flt
  by_cases z : s 4 i = 1
  · rw [if_pos ⟨rfl, z⟩, if_pos (show (toks s).1 i = 1 from z)]
    rfl
  · rw [if_neg (fun w => z w.2), if_neg (show ¬ (toks s).1 i = 1 from z)]
    rfl
theorem els_q {s g : zF} {i : Nat} {k : Int} (hk : k ≠ 1) (h : (g 2 0, g 2 1) = (k, if k = 1 ∧ s 4 i = 1 then s 5 i else s 6 i)) : (g 2 0, g 2 1) = (k, s 6 i) := by
  rw [h, if_neg (fun w => hk w.1)]
theorem tknB_up {s : zF} {b k : Nat} {v x : Int} (h : 3 ≤ b) : tknB (zup s 2 k v) b x = tknB s b x := by
  unfold tknB
  rw [zup_na (show b ≠ 2 by omega), zup_na (show b + 1 ≠ 2 by omega), zup_na (show b + 7 ≠ 2 by omega)]
theorem nNu_0 {t : zK} {lo hi : Int} {i : Nat} (h : t.1 i ≠ 4) : nNu t lo hi i = .inr (flt t i) := if_neg h
theorem nNu_4 {t : zK} {lo hi : Int} {i : Nat} (h : t.1 i = 4) (h2 : t.2.1 i < lo ∨ hi < t.2.1 i) : nNu t lo hi i = .inr (4, t.2.2 i) := (if_pos h).trans (if_pos h2)
theorem nNu_1 {t : zK} {lo hi : Int} {i : Nat} (h : t.1 i = 4) (h2 : ¬(t.2.1 i < lo ∨ hi < t.2.1 i)) : nNu t lo hi i = .inl (i + 1) := (if_pos h).trans (if_neg h2)
theorem nNa_0 {t : zK} {tk : Int → Bool} {i : Nat} (h : ¬(t.1 i = 2 ∧ tokI t i = -1)) : nNa t tk i = .inr (flt t i) := if_neg h
theorem nNa_2 {t : zK} {tk : Int → Bool} {i : Nat} (h : t.1 i = 2 ∧ tokI t i = -1) (h2 : tk (t.2.1 i) = true) : nNa t tk i = .inr (2, t.2.2 i) := (if_pos h).trans (if_pos h2)
theorem nNa_1 {t : zK} {tk : Int → Bool} {i : Nat} (h : t.1 i = 2 ∧ tokI t i = -1) (h2 : tk (t.2.1 i) = false) : nNa t tk i = .inl (i + 1) := (if_pos h).trans (if_neg (by rw [h2]; decide))
