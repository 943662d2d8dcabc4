/-! the letters of a name, out of both forms -/
def LTS (T : Nat → Int) (a n : Nat) : Prop := 1 ≤ n ∧ n ≤ 6 ∧ ∀ k, a ≤ k → k < a + n → isL (T k)
/-- a name, in both forms -/
def NAM (x w : Int) : Prop := ∃ (T : Nat → Int) (a n : Nat), LTS T a n ∧ x = pk5 T a n ∧ w = pk8 T a n
set_option maxRecDepth 16384 in
theorem zxshr_e {a : Int} {m : Nat} (h0 : 0 ≤ a) (h1 : a < 2147483648) (hm : m ≤ 5) : zxshr a (5 * (m : Int)) = a / 32 ^ m := by
  have e : (Int32.ofInt a).toInt = a := Int32.toInt_ofInt_of_le (by omega) (by omega)
  have hs : ((Int32.ofInt (5 * (m : Int)) &&& 31).toBitVec.smod 32).toNat = 5 * m := by
    have hc : m = 0 ∨ m = 1 ∨ m = 2 ∨ m = 3 ∨ m = 4 ∨ m = 5 := by omega
    rcases hc with z | z | z | z | z | z <;> subst z <;> decide
  show ((Int32.ofInt a).toBitVec.sshiftRight ((Int32.ofInt (5 * (m : Int)) &&& 31).toBitVec.smod 32).toNat).toInt = _
  rw [hs, BitVec.toInt_sshiftRight, Int.shiftRight_eq_div_pow]
  have e2 : (Int32.ofInt a).toBitVec.toInt = a := e
  rw [e2]
  congr 1
  rw [Nat.pow_mul]
  norm_cast
theorem zxand_31 {a : Int} (h0 : 0 ≤ a) (h1 : a < 2147483648) : zxand a 31 = a % 32 := by
  have e : (Int32.ofInt a).toInt = a := Int32.toInt_ofInt_of_le (by omega) (by omega)
  have e2 : (Int32.ofInt a).toBitVec.toInt = a := e
  rw [BitVec.toInt_eq_toNat_cond] at e2
  have hl := (Int32.ofInt a).toBitVec.isLt
  have n1 : ((Int32.ofInt a).toBitVec.toNat : Int) = a := by split at e2 <;> omega
  show ((Int32.ofInt a) &&& (Int32.ofInt 31)).toBitVec.toInt = _
  have h3 : ((Int32.ofInt a) &&& (Int32.ofInt 31)).toBitVec.toNat = (Int32.ofInt a).toBitVec.toNat % 32 := by
    rw [Int32.toBitVec_and, BitVec.toNat_and]
    rw [show (Int32.ofInt 31).toBitVec.toNat = 2 ^ 5 - 1 by decide]
    exact Nat.and_two_pow_sub_one_eq_mod _ 5
  rw [BitVec.toInt_eq_toNat_cond, h3, if_pos (by omega)]
  omega
def LTV (T : Nat → Int) (a n k : Nat) : Int := if k < n then T (a + k) - 96 else 0
theorem lts_k {T : Nat → Int} {a n k : Nat} (h : LTS T a n) (hk : k < n) : 97 ≤ T (a + k) ∧ T (a + k) ≤ 122 := by
  have := h.2.2 (a + k) (by omega) (by omega)
  unfold isL at this
  exact this
theorem pk5_b {T : Nat → Int} {a n : Nat} (h : LTS T a n) : 0 ≤ pk5 T a n ∧ pk5 T a n < 1073741824 := by
  obtain ⟨h1, h6, -⟩ := id h
  have hc : n = 1 ∨ n = 2 ∨ n = 3 ∨ n = 4 ∨ n = 5 ∨ n = 6 := by omega
  rcases hc with z | z | z | z | z | z <;> subst z
  · have := lts_k h (k := 0) (by decide)
    simp only [pk5]
    omega
  · have := lts_k h (k := 0) (by decide)
    have := lts_k h (k := 1) (by decide)
    simp only [pk5]
    omega
  · have := lts_k h (k := 0) (by decide)
    have := lts_k h (k := 1) (by decide)
    have := lts_k h (k := 2) (by decide)
    simp only [pk5]
    omega
  · have := lts_k h (k := 0) (by decide)
    have := lts_k h (k := 1) (by decide)
    have := lts_k h (k := 2) (by decide)
    have := lts_k h (k := 3) (by decide)
    simp only [pk5]
    omega
  · have := lts_k h (k := 0) (by decide)
    have := lts_k h (k := 1) (by decide)
    have := lts_k h (k := 2) (by decide)
    have := lts_k h (k := 3) (by decide)
    have := lts_k h (k := 4) (by decide)
    simp only [pk5]
    omega
  · have := lts_k h (k := 0) (by decide)
    have := lts_k h (k := 1) (by decide)
    have := lts_k h (k := 2) (by decide)
    have := lts_k h (k := 3) (by decide)
    have := lts_k h (k := 4) (by decide)
    have := lts_k h (k := 5) (by decide)
    simp only [pk5]
    omega
theorem pk5_ltn {T : Nat → Int} {a : Nat} : ∀ n : Nat, (∀ k, a ≤ k → k < a + n → isL (T k)) → 0 ≤ pk5 T a n ∧ pk5 T a n < 32 ^ n := by
  intro n
  induction n with
  | zero => intro _; exact ⟨Int.le_refl _, by show (0 : Int) < 1; decide⟩
  | succ n ih =>
    intro h
    obtain ⟨i1, i2⟩ := ih (fun k h1 h2 => h k h1 (by omega))
    have l := h (a + n) (by omega) (by omega)
    unfold isL at l
    show 0 ≤ pk5 T a n + (T (a + n) - 96) * 32 ^ n ∧ pk5 T a n + (T (a + n) - 96) * 32 ^ n < 32 ^ (n + 1)
    have hp : (0 : Int) < 32 ^ n := Int.pow_pos (by decide)
    rw [Int.pow_succ]
    have m1 : 1 * 32 ^ n ≤ (T (a + n) - 96) * 32 ^ n := Int.mul_le_mul_of_nonneg_right (by omega) (by omega)
    have m2 : (T (a + n) - 96) * 32 ^ n ≤ 26 * 32 ^ n := Int.mul_le_mul_of_nonneg_right (by omega) (by omega)
    omega
theorem pk5_dg {T : Nat → Int} {a : Nat} : ∀ n k : Nat, (∀ k, a ≤ k → k < a + n → isL (T k)) → pk5 T a n / 32 ^ k % 32 = LTV T a n k := by
  intro n
  induction n with
  | zero =>
    intro k _
    show (0 : Int) / 32 ^ k % 32 = 0
    rw [Int.zero_ediv]
    rfl
  | succ n ih =>
    intro k h
    have hn : ∀ k, a ≤ k → k < a + n → isL (T k) := fun k h1 h2 => h k h1 (by omega)
    have i := ih k hn
    obtain ⟨b1, b2⟩ := pk5_ltn n hn
    have l := h (a + n) (by omega) (by omega)
    unfold isL at l
    have hp : (0 : Int) < 32 ^ n := Int.pow_pos (by decide)
    show (pk5 T a n + (T (a + n) - 96) * 32 ^ n) / 32 ^ k % 32 = _
    unfold LTV at i ⊢
    rcases Nat.lt_trichotomy k n with z | z | z
    · rw [if_pos z] at i
      rw [if_pos (by omega), ← i]
      obtain ⟨m, rfl⟩ : ∃ m, n = k + 1 + m := ⟨n - k - 1, by omega⟩
      have e : (T (a + (k + 1 + m)) - 96) * 32 ^ (k + 1 + m) = ((T (a + (k + 1 + m)) - 96) * 32 ^ m * 32) * 32 ^ k := by
        rw [Int.pow_add, Int.pow_add, Int.pow_one]
        ac_rfl
      rw [e, Int.add_mul_ediv_right _ _ (Int.ne_of_gt (Int.pow_pos (by decide)))]
      rw [Int.add_mul_emod_self_right]
    · subst z
      rw [if_pos (by omega), Int.add_mul_ediv_right _ _ (Int.ne_of_gt hp), Int.ediv_eq_zero_of_lt b1 b2]
      omega
    · rw [if_neg (by omega)]
      have hb := (pk5_ltn (n + 1) h)
      have e : (32 : Int) ^ (n + 1) ≤ 32 ^ k := by
        have := Nat.pow_le_pow_right (show 0 < 32 by decide) (show n + 1 ≤ k by omega)
        exact_mod_cast this
      have hb2 : pk5 T a n + (T (a + n) - 96) * 32 ^ n < 32 ^ (n + 1) := hb.2
      have hb1 : 0 ≤ pk5 T a n + (T (a + n) - 96) * 32 ^ n := hb.1
      rw [Int.ediv_eq_zero_of_lt hb1 (by omega)]
      rfl
theorem let5 {T : Nat → Int} {a n k : Nat} (h : LTS T a n) (hk : k ≤ 5) : zxand (zxshr (pk5 T a n) (5 * (k : Int))) 31 = LTV T a n k := by
  obtain ⟨b1, b2⟩ := pk5_b h
  rw [zxshr_e b1 (by omega) hk]
  have d1 : 0 ≤ pk5 T a n / 32 ^ k := Int.ediv_nonneg b1 (Int.le_of_lt (Int.pow_pos (by decide)))
  have d2 : pk5 T a n / 32 ^ k ≤ pk5 T a n := Int.ediv_le_self _ b1
  rw [zxand_31 d1 (by omega)]
  exact pk5_dg n k h.2.2
theorem pk8_lt {T : Nat → Int} {a : Nat} : ∀ n : Nat, (∀ k, a ≤ k → k < a + n → isL (T k)) → 0 ≤ pk8 T a n ∧ (1 ≤ n → 0 < pk8 T a n) ∧ (n ≤ 6 → pk8 T a n < 256 ^ n) := by
  intro n
  induction n with
  | zero => intro _; exact ⟨Int.le_refl _, fun h => absurd h (by decide), fun _ => by show (0 : Int) < 1; decide⟩
  | succ n ih =>
    intro h
    obtain ⟨i1, i2, i3⟩ := ih (fun k h1 h2 => h k h1 (by omega))
    have l := h (a + n) (by omega) (by omega)
    unfold isL at l
    show 0 ≤ 256 * pk8 T a n + T (a + n) ∧ (1 ≤ n + 1 → 0 < 256 * pk8 T a n + T (a + n)) ∧ (n + 1 ≤ 6 → 256 * pk8 T a n + T (a + n) < 256 ^ (n + 1))
    refine ⟨by omega, fun _ => by omega, fun hn => ?_⟩
    have := i3 (by omega)
    rw [Int.pow_succ]
    omega
theorem pk8_div {T : Nat → Int} {a m : Nat} (h : isL (T (a + m))) : pk8 T a (m + 1) / 256 = pk8 T a m := by
  unfold isL at h
  show (256 * pk8 T a m + T (a + m)) / 256 = _
  omega
theorem pk8_sh {T : Nat → Int} {a n : Nat} (h : ∀ k, a ≤ k → k < a + n → isL (T k)) : ∀ m : Nat, m ≤ n → pk8 T a n / 256 ^ m = pk8 T a (n - m) := by
  intro m
  induction m with
  | zero =>
    intro _
    show pk8 T a n / 1 = _
    rw [Int.ediv_one, Nat.sub_zero]
  | succ m ih =>
    intro hm
    rw [Int.pow_succ, ← Int.ediv_ediv_of_nonneg (Int.le_of_lt (Int.pow_pos (by decide))), ih (by omega)]
    have e : n - m = (n - (m + 1)) + 1 := by omega
    rw [e]
    exact pk8_div (h _ (by omega) (by omega))
set_option maxRecDepth 16384 in
theorem let8 {T : Nat → Int} {a n k : Nat} (h : LTS T a n) (hk : k < n) : zxland (zxlsr (pk8 T a n) (8 * ((n - 1 - k : Nat) : Int))) 255 = T (a + k) := by
  obtain ⟨h1, h6, hl⟩ := h
  obtain ⟨b1, -, b3⟩ := pk8_lt n hl
  have hb := b3 h6
  have e6 : (256 : Int) ^ n ≤ 256 ^ 6 := by
    have := Nat.pow_le_pow_right (show 0 < 256 by decide) h6
    exact_mod_cast this
  have hb2 : pk8 T a n < 9223372036854775808 := by
    have : (256 : Int) ^ 6 = 281474976710656 := by decide
    omega
  rw [zxlsr_e b1 hb2 (by omega), pk8_sh hl _ (by omega)]
  have e : n - (n - 1 - k) = k + 1 := by omega
  rw [e]
  obtain ⟨c1, -, c3⟩ := pk8_lt (T := T) (a := a) (k + 1) (fun q q1 q2 => hl q q1 (by omega))
  have c4 := c3 (by omega)
  have e7 : (256 : Int) ^ (k + 1) ≤ 256 ^ 6 := by
    have := Nat.pow_le_pow_right (show 0 < 256 by decide) (show k + 1 ≤ 6 by omega)
    exact_mod_cast this
  have : (256 : Int) ^ 6 = 281474976710656 := by decide
  rw [zxland_e c1 (by omega)]
  have l := hl (a + k) (by omega) (by omega)
  unfold isL at l
  show (256 * pk8 T a k + T (a + k)) % 256 = _
  omega
/-- a NAME among the tokens -/
theorem tok_nam {T : Nat → Int} {L e i : Nat} {t : zK} {P : Nat → Nat} (tk : Toks T L t.1 t.2.1 t.2.2 P e) (hi : i ≤ e) (h2 : t.1 i = 2) : NAM (t.2.1 i) (c8 (t.2.1 i)) := by
  obtain ⟨⟨t0, t1, t2⟩, t3, t4⟩ := tk
  have h1 : TokAt T L t.1 t.2.1 t.2.2 i (P i) (P (i + 1)) := by
    by_cases z : i = e
    · rw [z]
      exact t3
    · exact t1 i (by omega)
  obtain ⟨a, b1, b2, b3, b4, b5⟩ := h1
  rcases b5 with ⟨-, z, -⟩ | ⟨-, -, z, -⟩ | ⟨-, -, z, -⟩ | ⟨-, -, -, z, -⟩ | ⟨-, r, hr, y1, y2, y3, y4, y5, y6, y7⟩ | ⟨-, r, -, -, -, z, -⟩
  · omega
  · omega
  · omega
  · omega
  · have er : r = 2 := by omega
    subst er
    rw [mxl_2] at y3
    have hl : ∀ k, a ≤ k → k < a + (P (i + 1) - a) → isL (T k) := fun k k1 k2 => kof_2 (y4 k k1 (by omega))
    have hv : t.2.1 i = pk5 T a (P (i + 1) - a) := y7
    refine ⟨T, a, P (i + 1) - a, ⟨by omega, by omega, hl⟩, hv, ?_⟩
    rw [hv]
    exact c8_pk (by omega) hl
  · omega
