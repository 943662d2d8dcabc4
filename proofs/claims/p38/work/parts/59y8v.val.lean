/-! what a BOY's MARKS, a DREAM's LASTS are in the text (p38) -/
def mkV (t : zK) (i : Nat) : Int := (mkF t 3 0 (i + 10)).2
def lsV (t : zK) (i : Nat) : Int := t.2.1 (i + 5)
/-- a cell more -/
def NEWV (s0 g : zF) (b slot cell : Nat) (v : Int) : Prop := g (b + cell) (s0 b slot).toNat = v ∧ ∀ k, k ≠ (s0 b slot).toNat → g (b + cell) k = s0 (b + cell) k
/-- values by the list of STATEMENTS -/
def VLs (val : Nat → Int) (f : Nat → Int) (o : Nat) (B : List Nat) : Prop := ∀ k : Nat, k < B.length → f (o + k) = val (B.getD k 0)
theorem VLs_0 {val : Nat → Int} {f : Nat → Int} {o : Nat} : VLs val f o [] := fun k hk => absurd hk (by simp)
theorem VLs_s {val : Nat → Int} {f g : Nat → Int} {o i n : Nat} {B : List Nat} (h : VLs val f o B) (hn : n = B.length) (hx : g (o + n) = val i) (ho : ∀ k, k < n → g (o + k) = f (o + k)) : VLs val g o (B ++ [i]) := by
  intro k hk
  rw [List.length_append, List.length_singleton] at hk
  by_cases z : k = n
  · have e : B.length = k := by omega
    rw [z, hx, ← z, List.getD_eq_getElem?_getD, List.getElem?_append_right (by omega), e, Nat.sub_self]
    rfl
  · have hk2 : k < B.length := by omega
    rw [ho k (by omega), h k hk2, List.getD_eq_getElem?_getD, List.getD_eq_getElem?_getD, List.getElem?_append_left hk2]
theorem VLs_fr {val : Nat → Int} {f g : Nat → Int} {o : Nat} {B : List Nat} (h : VLs val f o B) (e : ∀ k, k < B.length → g (o + k) = f (o + k)) : VLs val g o B := fun k hk => by rw [e k hk]; exact h k hk
theorem nOw_i {t : zK} {w : Int} {i j : Nat} (h : nOw t w i = .inl j) : j = i + 1 := by
  unfold nOw at h
  split at h
  · cases h
    rfl
  · cases h
theorem nNu_i {t : zK} {lo hi : Int} {i j : Nat} (h : nNu t lo hi i = .inl j) : j = i + 1 := by
  unfold nNu at h
  split at h
  · split at h
    · cases h
    · cases h
      rfl
  · cases h
theorem nNa_i {t : zK} {tk : Int → Bool} {i j : Nat} (h : nNa t tk i = .inl j) : j = i + 1 := by
  unfold nNa at h
  split at h
  · split at h
    · cases h
    · cases h
      rfl
  · cases h
