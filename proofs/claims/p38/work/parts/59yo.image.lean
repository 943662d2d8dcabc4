/-! is it an image: what on() asks of the tape -/
def SEAL (T : Nat → Int) : Nat → Int
  | 0 => 89
  | n + 1 => (5 * SEAL T n + T n) % 251
def BON (T : Nat → Int) (k : Nat) (ND : Int) (las mk : Nat → Int) : Prop := T (k + 1) ≤ 1 ∧ T (k + 2) - 1 < ND ∧ T (k + 4) - 1 < ND ∧ (T (k + 2) = 0 → T (k + 3) = 0) ∧ (T (k + 2) ≠ 0 → 1 ≤ T (k + 3) ∧ T (k + 3) ≤ las (T (k + 2) - 1).toNat) ∧ (T (k + 2) ≠ 0 ∨ T (k + 4) ≠ 0 → T (k + 1) = 1 ∧ zxand (mk (T k).toNat) 2 = 0) ∧ ¬(T (k + 2) ≠ 0 ∧ T (k + 4) ≠ 0) ∧ 256 * T (k + 5) + T (k + 6) ≤ 9999
def KNM (NB : Int) : Int := if NB = 0 then 0 else NB - 1
def IMAGE (T : Nat → Int) (L NB ND : Int) (las mk : Nat → Int) : Prop := L = 3 + 7 * NB + 2 * KNM NB ∧ SEAL T (L - 1).toNat = T (L - 1).toNat ∧ 256 * T 0 + T 1 ≤ 999 ∧ (∀ p : Nat, (p : Int) < NB → T (2 + 7 * p) < NB ∧ BON T (2 + 7 * p) ND las mk ∧ ∀ q : Nat, q < p → T (2 + 7 * q) ≠ T (2 + 7 * p)) ∧ ∀ k : Nat, (k : Int) < KNM NB → T (2 + 7 * NB.toNat + 2 * k) ≤ 1 ∧ T (2 + 7 * NB.toNat + 2 * k + 1) ≤ 99
/-- bits of small numbers -/
theorem zofN {a : Int} (h0 : 0 ≤ a) (h1 : a < 2147483648) : ((Int32.ofInt a).toBitVec.toNat : Int) = a := by
  have e : (Int32.ofInt a).toInt = a := Int32.toInt_ofInt_of_le (by omega) (by omega)
  have e2 : (Int32.ofInt a).toBitVec.toInt = a := e
  rw [BitVec.toInt_eq_toNat_cond] at e2
  have hl := (Int32.ofInt a).toBitVec.isLt
  split at e2 <;> omega
theorem zxor_n {a b : Int} (a0 : 0 ≤ a) (a1 : a < 1073741824) (b0 : 0 ≤ b) (b1 : b < 1073741824) : zxor a b = ((a.toNat ||| b.toNat : Nat) : Int) := by
  have ha := zofN a0 (by omega)
  have hb := zofN b0 (by omega)
  show ((Int32.ofInt a) ||| (Int32.ofInt b)).toBitVec.toInt = _
  have h3 : ((Int32.ofInt a) ||| (Int32.ofInt b)).toBitVec.toNat = a.toNat ||| b.toNat := by
    rw [Int32.toBitVec_or, BitVec.toNat_or]
    congr 1 <;> omega
  have hl : a.toNat ||| b.toNat < 2 ^ 30 := Nat.or_lt_two_pow (by omega) (by omega)
  rw [BitVec.toInt_eq_toNat_cond, h3, if_pos (by omega)]
theorem zxand_n1 {a : Int} (h0 : 0 ≤ a) (h1 : a < 2147483648) : zxand a 1 = a % 2 := by
  have n1 := zofN h0 h1
  show ((Int32.ofInt a) &&& (Int32.ofInt 1)).toBitVec.toInt = _
  have h3 : ((Int32.ofInt a) &&& (Int32.ofInt 1)).toBitVec.toNat = (Int32.ofInt a).toBitVec.toNat % 2 := by
    rw [Int32.toBitVec_and, BitVec.toNat_and]
    rw [show (Int32.ofInt 1).toBitVec.toNat = 2 ^ 1 - 1 by decide]
    exact Nat.and_two_pow_sub_one_eq_mod _ 1
  rw [BitVec.toInt_eq_toNat_cond, h3, if_pos (by omega)]
  omega
theorem zxshr_n {a : Int} {m : Nat} (h0 : 0 ≤ a) (h1 : a < 2147483648) (hm : m ≤ 11) : zxshr a (m : Int) = a / 2 ^ m := by
  have e : (Int32.ofInt a).toInt = a := Int32.toInt_ofInt_of_le (by omega) (by omega)
  have hs : ((Int32.ofInt (m : Int) &&& 31).toBitVec.smod 32).toNat = m := by
    have hc : m = 0 ∨ m = 1 ∨ m = 2 ∨ m = 3 ∨ m = 4 ∨ m = 5 ∨ m = 6 ∨ m = 7 ∨ m = 8 ∨ m = 9 ∨ m = 10 ∨ m = 11 := by omega
    rcases hc with z | z | z | z | z | z | z | z | z | z | z | z <;> subst z <;> decide
  show ((Int32.ofInt a).toBitVec.sshiftRight ((Int32.ofInt (m : Int) &&& 31).toBitVec.smod 32).toNat).toInt = _
  rw [hs, BitVec.toInt_sshiftRight, Int.shiftRight_eq_div_pow]
  have e2 : (Int32.ofInt a).toBitVec.toInt = a := e
  rw [e2]
  congr 1
theorem zxshl_1 {m : Nat} (hm : m ≤ 11) : zxshl 1 (m : Int) = ((2 ^ m : Nat) : Int) := by
  have hc : m = 0 ∨ m = 1 ∨ m = 2 ∨ m = 3 ∨ m = 4 ∨ m = 5 ∨ m = 6 ∨ m = 7 ∨ m = 8 ∨ m = 9 ∨ m = 10 ∨ m = 11 := by omega
  rcases hc with z | z | z | z | z | z | z | z | z | z | z | z <;> subst z <;> decide +kernel
/-- is the bit set -/
theorem bit_iff {s : Int} {b : Nat} (h0 : 0 ≤ s) (h1 : s < 4096) (hb : b ≤ 11) : zxand (zxshr s (b : Int)) 1 = 1 ↔ s.toNat.testBit b = true := by
  have d1 : 0 ≤ s / 2 ^ b := Int.ediv_nonneg h0 (Int.le_of_lt (Int.pow_pos (by decide)))
  have d2 : s / 2 ^ b ≤ s := Int.ediv_le_self _ h0
  rw [zxshr_n h0 (by omega) hb, zxand_n1 d1 (by omega), Nat.testBit_eq_decide_div_mod_eq, decide_eq_true_eq]
  have e : s / 2 ^ b = ((s.toNat / 2 ^ b : Nat) : Int) := by
    rw [Int.natCast_ediv, Int.natCast_pow, show ((s.toNat : Nat) : Int) = s by omega]
    rfl
  rw [e]
  omega
theorem bit_or {s : Int} {b c : Nat} (h0 : 0 ≤ s) (h1 : s < 4096) (hb : b ≤ 11) (hc : c ≤ 11) : (0 ≤ zxor s (zxshl 1 (c : Int)) ∧ zxor s (zxshl 1 (c : Int)) < 4096) ∧ (zxand (zxshr (zxor s (zxshl 1 (c : Int))) (b : Int)) 1 = 1 ↔ zxand (zxshr s (b : Int)) 1 = 1 ∨ b = c) := by
  have hp : 2 ^ c ≤ 2 ^ 11 := Nat.pow_le_pow_right (by decide) hc
  have e : zxor s (zxshl 1 (c : Int)) = ((s.toNat ||| 2 ^ c : Nat) : Int) := by
    have q1 : ((2 ^ c : Nat) : Int) < 1073741824 := Int.ofNat_lt.mpr (show 2 ^ c < 1073741824 from Nat.lt_of_le_of_lt hp (by decide))
    rw [zxshl_1 hc, zxor_n h0 (by omega) (Int.natCast_nonneg _) q1]
    rfl
  have hl : s.toNat ||| 2 ^ c < 2 ^ 12 := Nat.or_lt_two_pow (by omega) (by omega)
  have r : 0 ≤ zxor s (zxshl 1 (c : Int)) ∧ zxor s (zxshl 1 (c : Int)) < 4096 := by
    rw [e]
    omega
  refine ⟨r, ?_⟩
  rw [bit_iff r.1 r.2 hb, bit_iff h0 h1 hb, e]
  show (s.toNat ||| 2 ^ c).testBit b = true ↔ _
  rw [Nat.testBit_or, Bool.or_eq_true, Nat.testBit_two_pow]
  rw [decide_eq_true_eq]
  constructor
  · intro h
    rcases h with h | h
    · exact Or.inl h
    · exact Or.inr h.symm
  · intro h
    rcases h with h | h
    · exact Or.inl h
    · exact Or.inr h.symm
/-- two bytes as one number -/
theorem pair_or {x y : Int} (x0 : 0 ≤ x) (x1 : x ≤ 255) (y0 : 0 ≤ y) (y1 : y ≤ 255) : zxor (zxshl x 8) y = 256 * x + y := by
  have hs : ∀ k : Nat, k ≤ 255 → zxshl (k : Int) 8 = 256 * (k : Int) := by
    have h : ∀ k : Nat, k < 256 → decide (zxshl (k : Int) 8 = 256 * (k : Int)) = true := by decide +kernel
    intro k hk
    exact of_decide_eq_true (h k (by omega))
  have e1 := hs x.toNat (by omega)
  rw [show ((x.toNat : Nat) : Int) = x by omega] at e1
  rw [e1, zxor_n (by omega) (by omega) y0 (by omega)]
  have e2 : (256 * x).toNat = 2 ^ 8 * x.toNat := by omega
  rw [e2, ← Nat.two_pow_add_eq_or_of_lt (by omega)]
  omega
def IMB (T : Nat → Int) (L NB : Int) : Prop := L = 3 + 7 * NB + 2 * KNM NB ∧ SEAL T (L - 1).toNat = T (L - 1).toNat ∧ 256 * T 0 + T 1 ≤ 999
/-- the first p PLACES are told well -/
def IMP (T : Nat → Int) (NB ND : Int) (las mk : Nat → Int) (n : Int) : Prop := ∀ p : Nat, (p : Int) < n → T (2 + 7 * p) < NB ∧ BON T (2 + 7 * p) ND las mk ∧ ∀ q : Nat, q < p → T (2 + 7 * q) ≠ T (2 + 7 * p)
def IMK (T : Nat → Int) (NB n : Int) : Prop := ∀ k : Nat, (k : Int) < n → T (2 + 7 * NB.toNat + 2 * k) ≤ 1 ∧ T (2 + 7 * NB.toNat + 2 * k + 1) ≤ 99
section IMS
variable {T : Nat → Int} {L NB ND : Int} {las mk : Nat → Int}
theorem IMAGE_mk (b : IMB T L NB) (p : IMP T NB ND las mk NB) (k : IMK T NB (KNM NB)) : IMAGE T L NB ND las mk := ⟨b.1, b.2.1, b.2.2, p, k⟩
theorem KNM_c {NB x : Int} (h : x = 0 ∨ x = NB - 1) (h0 : 0 ≤ x) (h1 : NB - 1 ≤ x) (hn : 0 ≤ NB) : KNM NB = x := by
  unfold KNM
  split <;> omega
theorem IMP_0 : IMP T NB ND las mk 0 := fun p h => by omega
theorem IMP_s {n : Int} (h : IMP T NB ND las mk n) (h0 : 0 ≤ n) (h1 : T (2 + 7 * n.toNat) < NB) (h2 : BON T (2 + 7 * n.toNat) ND las mk) (h3 : ∀ q : Nat, q < n.toNat → T (2 + 7 * q) ≠ T (2 + 7 * n.toNat)) : IMP T NB ND las mk (n + 1) := by
  intro p hp
  by_cases z : p = n.toNat
  · subst z
    exact ⟨h1, h2, h3⟩
  · exact h p (by omega)
theorem IMK_0 : IMK T NB 0 := fun k h => by omega
theorem IMK_s {n : Int} (h : IMK T NB n) (h0 : 0 ≤ n) (h1 : T (2 + 7 * NB.toNat + 2 * n.toNat) ≤ 1) (h2 : T (2 + 7 * NB.toNat + 2 * n.toNat + 1) ≤ 99) : IMK T NB (n + 1) := by
  intro k hk
  by_cases z : k = n.toNat
  · subst z
    exact ⟨h1, h2⟩
  · exact h k (by omega)
end IMS
/-- whom the bits name -/
def SEEN (T : Nat → Int) (s n : Int) : Prop := (0 ≤ s ∧ s < 4096) ∧ ∀ b : Nat, b ≤ 11 → (zxand (zxshr s (b : Int)) 1 = 1 ↔ ∃ q : Nat, (q : Int) < n ∧ T (2 + 7 * q) = (b : Int))
theorem SEEN_0 {T : Nat → Int} : SEEN T 0 0 := by
  refine ⟨⟨by decide, by decide⟩, fun b hb => ?_⟩
  rw [bit_iff (by decide) (by decide) hb]
  constructor
  · intro h
    rw [show (0 : Int).toNat = 0 from rfl, Nat.zero_testBit] at h
    cases h
  · rintro ⟨q, h, -⟩
    omega
theorem SEEN_s {T : Nat → Int} {s n x : Int} (h : SEEN T s n) (h0 : 0 ≤ n) (hx : x = T (2 + 7 * n.toNat)) (x0 : 0 ≤ x) (x1 : x ≤ 11) : SEEN T (zxor s (zxshl 1 x)) (n + 1) := by
  obtain ⟨⟨s0, s1⟩, hb⟩ := h
  have ex : x = ((x.toNat : Nat) : Int) := by omega
  rw [ex]
  refine ⟨(bit_or (b := 0) s0 s1 (by decide) (by omega)).1, fun b hb2 => ?_⟩
  rw [(bit_or s0 s1 hb2 (by omega)).2, hb b hb2]
  constructor
  · intro z
    rcases z with ⟨q, q1, q2⟩ | z
    · exact ⟨q, by omega, q2⟩
    · exact ⟨n.toNat, by omega, by omega⟩
  · intro ⟨q, q1, q2⟩
    by_cases z : q = n.toNat
    · subst z
      exact Or.inr (by omega)
    · exact Or.inl ⟨q, by omega, q2⟩
/-- the reference's numbers -/
def NBR (s : zF) : Int := s 388 (s 386 12).toNat
def NDR (s : zF) : Int := s 396 (s 386 12).toNat
def LASR (s : zF) (d : Nat) : Int := s 399 (6 * (s 386 12).toNat + d)
def MKR (s : zF) (b : Nat) : Int := s 394 (12 * (s 386 12).toNat + b)
theorem KNM_p {NB : Int} (h : 0 < NB) : NB - 1 = KNM NB := by
  unfold KNM
  rw [if_neg (by omega)]
theorem KNM_0 {NB : Int} (h : NB = 0) : 0 = KNM NB := by
  unfold KNM
  rw [if_pos h]
