/-! STATEMENTS, token by token -/
theorem zbd_l {i : Nat} {F : Nat → zP} : zbd (.inl i) F = F i := rfl
theorem zbd_r {f : Int × Int} {F : Nat → zP} : zbd (.inr f) F = .inr f := rfl
/-- the MARKS of a BOY: at most so many more, those told, the token -/
def mkF (t : zK) : Nat → Int → Nat → zP × Int
  | 0, m, i => (.inl i, m)
  | n + 1, m, i => if tokI t i = 10 then (if m = 1 ∨ m = 3 then (.inr (flt t i), m) else mkF t n (m + 1) (i + 1)) else if tokI t i = 11 then (if m = 2 ∨ m = 3 then (.inr (flt t i), m) else mkF t n (m + 2) (i + 1)) else (.inl i, m)
def spBoy (t : zK) (tk : Int → Bool) (i : Nat) : zP :=
  zbd (nNa t tk (i + 1)) fun a => zbd (nOw t 1 a) fun a => zbd (nNu t 1 99 a) fun a => zbd (nOw t 2 a) fun a => zbd (nNu t 1 999 a) fun a => zbd (nOw t 8 a) fun a => zbd (nNu t 0 100 a) fun a => zbd (nOw t 9 a) fun a => zbd (nNu t 0 99 a) fun a => (mkF t 3 0 a).1
def spDream (t : zK) (tk : Int → Bool) (i : Nat) : zP :=
  zbd (nNa t tk (i + 1)) fun a => zbd (nOw t 15 a) fun a => zbd (nNu t 1 999 a) fun a => zbd (nOw t 16 a) fun a => zbd (nNu t 1 60 a) fun a => zbd (nOw t 17 a) fun a => zbd (nNu t 1 999 a) fun a => zbd (nOw t 8 a) fun a => nNu t 1 99 a
def spSlack (t : zK) (i : Nat) : zP :=
  zbd (nNu t 0 99 (i + 1)) fun a => zbd (nOw t 13 a) fun a => nNu t 0 10 a
/-- SUM when TEST: as runs of the machine -/
def spLaw (t : zK) (i : Nat) (r : zP) : Prop := ∃ r1, amFin t (i + 1, [(0, 0, true)], false) r1 ∧ (match r1 with
  | .inr f => r = .inr f
  | .inl j => match nOw t 20 j with
    | .inr f => r = .inr f
    | .inl k => amFin t (k, [(1, 0, true)], false) r)
theorem spLaw_eq {t : zK} {i : Nat} {r r' : zP} (h : spLaw t i r) (h' : spLaw t i r') : r = r' := by
  obtain ⟨a, a1, a2⟩ := h
  obtain ⟨b, b1, b2⟩ := h'
  have e := amFin_eq a1 b1
  subst e
  cases a with
  | inr f => exact (show r = .inr f from a2).trans (show r' = .inr f from b2).symm
  | inl j =>
    have a3 : (match nOw t 20 j with
      | .inr f => r = .inr f
      | .inl k => amFin t (k, [(1, 0, true)], false) r) := a2
    have b3 : (match nOw t 20 j with
      | .inr f => r' = .inr f
      | .inl k => amFin t (k, [(1, 0, true)], false) r') := b2
    cases hn : nOw t 20 j with
    | inr f =>
      rw [hn] at a3 b3
      exact (show r = .inr f from a3).trans (show r' = .inr f from b3).symm
    | inl k =>
      rw [hn] at a3 b3
      exact amFin_eq a3 b3
theorem EN_st {s : zF} {a k : Nat} {v : Int} (h : 7 ≤ a) : EN s (zup s a k v) := ⟨toks_up (by omega), zup_na (by omega), zup_ne (by omega)⟩
theorem EN_st2 {s : zF} {k : Nat} {v : Int} (h : k ≠ 6) : EN s (zup s 2 k v) := ⟨toks_up (by decide), zup_na (by decide), zup_ne (Or.inr (Ne.symm h))⟩
/-- a BOY, a DREAM more in the Dorm b: its name (the others stay) -/
def NEWN (s0 g : zF) (b slot cell i : Nat) : Prop := g b slot = s0 b slot + 1 ∧ g (b + cell) (s0 b slot).toNat = s0 5 (i + 1) ∧ ∀ k, k ≠ (s0 b slot).toNat → g (b + cell) k = s0 (b + cell) k
theorem tknB_stp {s g : zF} {b : Nat} (q : g = stp s) (h : 3 ≤ b) : tknB g b = tknB s b := by
  funext x
  rw [q]
  unfold stp
  split
  · exact tknB_up h
  · rfl
theorem stp_28 {s g : zF} (q : g = stp s) : g 2 8 = s 2 8 := by
  rw [q]
  unfold stp
  split
  · exact zup_ne (Or.inr (by decide))
  · rfl
theorem stp_na {s g : zF} {a : Nat} (q : g = stp s) (h : a ≠ 2) : g a = s a := by
  rw [q]
  unfold stp
  split
  · exact zup_na h
  · rfl
theorem zxand_1 {m : Int} (h0 : 0 ≤ m) (h1 : m ≤ 3) : zxand m 1 = 0 ↔ m = 0 ∨ m = 2 := by
  have h : ∀ k : Nat, k < 4 → (decide (zxand (k : Int) 1 = 0) = decide (k = 0 ∨ k = 2)) := by decide +kernel
  have h2 := h m.toNat (by omega)
  rw [show ((m.toNat : Nat) : Int) = m by omega] at h2
  constructor
  · intro z
    rw [decide_eq_true z] at h2
    have := of_decide_eq_true h2.symm
    omega
  · intro z
    have z2 : m.toNat = 0 ∨ m.toNat = 2 := by omega
    rw [decide_eq_true z2] at h2
    exact of_decide_eq_true h2
theorem zxand_2 {m : Int} (h0 : 0 ≤ m) (h1 : m ≤ 3) : zxand m 2 = 0 ↔ m = 0 ∨ m = 1 := by
  have h : ∀ k : Nat, k < 4 → (decide (zxand (k : Int) 2 = 0) = decide (k = 0 ∨ k = 1)) := by decide +kernel
  have h2 := h m.toNat (by omega)
  rw [show ((m.toNat : Nat) : Int) = m by omega] at h2
  constructor
  · intro z
    rw [decide_eq_true z] at h2
    have := of_decide_eq_true h2.symm
    omega
  · intro z
    have z2 : m.toNat = 0 ∨ m.toNat = 1 := by omega
    rw [decide_eq_true z2] at h2
    exact of_decide_eq_true h2
theorem zxor_1 {m : Int} (h : m = 0 ∨ m = 2) : zxor m 1 = m + 1 := by
  rcases h with z | z <;> subst z <;> decide +kernel
theorem zxor_2 {m : Int} (h : m = 0 ∨ m = 1) : zxor m 2 = m + 2 := by
  rcases h with z | z <;> subst z <;> decide +kernel
theorem mkF_end {t : zK} {n i : Nat} {m : Int} (h10 : tokI t i ≠ 10) (h11 : tokI t i ≠ 11) : mkF t (n + 1) m i = (.inl i, m) := by
  unfold mkF
  rw [if_neg h10, if_neg h11]
theorem mkF_f10 {t : zK} {n i : Nat} {m : Int} (h : tokI t i = 10) (hm : m = 1 ∨ m = 3) : mkF t (n + 1) m i = (.inr (flt t i), m) := by
  unfold mkF
  rw [if_pos h, if_pos hm]
theorem mkF_10 {t : zK} {n i : Nat} {m : Int} (h : tokI t i = 10) (hm : ¬(m = 1 ∨ m = 3)) : mkF t (n + 1) m i = mkF t n (m + 1) (i + 1) := by
  rw [mkF, if_pos h, if_neg hm]
theorem mkF_f11 {t : zK} {n i : Nat} {m : Int} (h : tokI t i = 11) (hm : m = 2 ∨ m = 3) : mkF t (n + 1) m i = (.inr (flt t i), m) := by
  unfold mkF
  rw [if_neg (by omega), if_pos h, if_pos hm]
theorem mkF_11 {t : zK} {n i : Nat} {m : Int} (h : tokI t i = 11) (hm : ¬(m = 2 ∨ m = 3)) : mkF t (n + 1) m i = mkF t n (m + 2) (i + 1) := by
  rw [mkF, if_neg (by omega), if_pos h, if_neg hm]
