/-! rows that give the exact number of an int operation -/
def zxand (a b : Int) : Int := (Int32.ofInt a &&& Int32.ofInt b).toInt
def zxor (a b : Int) : Int := (Int32.ofInt a ||| Int32.ofInt b).toInt
def zxshl (a b : Int) : Int := (Int32.ofInt a <<< (Int32.ofInt b &&& 31)).toInt
def zxshr (a b : Int) : Int := (Int32.ofInt a >>> (Int32.ofInt b &&& 31)).toInt
def zxi2c (a : Int) : Int := ((Int32.ofInt a).toUInt32 % 65536).toInt32.toInt
def zxix (c : Int) : Int := (zixF (Int32.ofInt c) (ztx 1) 0).toInt
theorem zxand_i (x y : Int32) : (x &&& y).toInt = zxand x.toInt y.toInt := by
  unfold zxand
  rw [Int32.ofInt_toInt, Int32.ofInt_toInt]
theorem zxor_i (x y : Int32) : (x ||| y).toInt = zxor x.toInt y.toInt := by
  unfold zxor
  rw [Int32.ofInt_toInt, Int32.ofInt_toInt]
theorem zxshl_i (x y : Int32) : (x <<< (y &&& 31)).toInt = zxshl x.toInt y.toInt := by
  unfold zxshl
  rw [Int32.ofInt_toInt, Int32.ofInt_toInt]
theorem zxshr_i (x y : Int32) : (x >>> (y &&& 31)).toInt = zxshr x.toInt y.toInt := by
  unfold zxshr
  rw [Int32.ofInt_toInt, Int32.ofInt_toInt]
theorem zxi2c_i (x : Int32) : (x.toUInt32 % 65536).toInt32.toInt = zxi2c x.toInt := by
  unfold zxi2c
  rw [Int32.ofInt_toInt]
section ZEX
variable {X : List Int32} {d own : Nat} {ini : Bool} {ret : Option FieldType} {cc : ByteArray} {Q : zRes → Prop} {pc n : Nat} {i : Instr} {ml ml' : zML} {st st' : List Value} {M M' : zM} {x y c : Int32}
theorem w_exE {v : Int32} (hd : decode cc pc = .ok (i, n)) (h1 : zret ret i st = none) (h : zpure i st = some (n, .int v :: st')) (k : ∀ z : Int32, z = v → ZW X d own ini ret cc Q (pc + n, ml, .int z :: st', M)) : ZW X d own ini ret cc Q (pc, ml, st, M) := w_pu hd h1 h (k v rfl)
theorem w_andE {m : Nat} (hd : decode cc pc = .ok (.iand, 1)) (hm : y.toInt = (m : Int)) (hm2 : m < 2147483648) (k : ∀ z : Int32, 0 ≤ z.toInt → z.toInt ≤ (m : Int) → z = x &&& y → ZW X d own ini ret cc Q (pc + 1, ml, .int z :: st, M)) : ZW X d own ini ret cc Q (pc, ml, .int y :: .int x :: st, M) := w_pu hd rfl rfl (k _ (zand_i hm).1 (zand_i hm).2 rfl)
theorem w_ixE {idx j : Nat} {s' : List Value} (hd : decode cc pc = .ok (.invokevirtual idx, 3)) (hcl : zcall own idx = some (10, j)) (hcat : zcat s' ≤ 8) (k : ∀ z : Int32, z.toInt = zxix x.toInt → ZW X (d + 4) own ini ret cc Q (pc + 3, ml, .int z :: s', M)) : ZW X (d + 4) own ini ret cc Q (pc, ml, .int x :: .ref (zBig + 2) :: s', M) := by
  have hc : ZC X (d + 4) 3330 [.ref (zBig + 2), .int x] M (some (.int (zixF x (ztx 1) 0)), M) := by
    refine ⟨0, ?_⟩
    unfold zev
    rw [show zmt 3330 = none from rfl]
    simp only []
    rw [if_pos (by omega)]
    simp only [zprm]
    rw [if_pos (Or.inr trivial)]
    rfl
  obtain ⟨r, h1, h2⟩ := k (zixF x (ztx 1) 0) (by
    unfold zxix
    rw [Int32.ofInt_toInt])
  refine ⟨r, ZX.ca hc hd rfl rfl rfl rfl rfl ?_ h1, h2⟩
  simp only [zinv, hcl]
  rw [if_pos ⟨Or.inr trivial, hcat⟩, if_pos (by simp)]
  rfl
end ZEX
/-- which bytes the text of the signs holds -/
theorem zxix_s : ∀ c : Nat, c < 256 → (decide (zxix (zxi2c (c : Int)) < 0) = !sgL.contains (c : Int)) := by decide +kernel
theorem zxix_sg {c : Int} (h0 : 0 ≤ c) (h1 : c ≤ 255) : zxix (zxi2c c) < 0 ↔ sgL.contains c = false := by
  have h := zxix_s c.toNat (by omega)
  rw [show ((c.toNat : Nat) : Int) = c by omega] at h
  cases e : sgL.contains c with
  | true =>
    rw [e] at h
    have := of_decide_eq_false h
    simp [this]
  | false =>
    rw [e] at h
    have := of_decide_eq_true h
    simp [this]
theorem zor_add {x y : Int32} {m : Nat} (h0 : 0 ≤ x.toInt) (h1 : x.toInt.toNat < 2 ^ m) (h2 : 0 ≤ y.toInt) (h3 : y.toInt.toNat % 2 ^ m = 0) (hs : x.toInt + y.toInt < 2147483648) : (x ||| y).toInt = x.toInt + y.toInt := by
  have e1 : x.toInt = x.toBitVec.toInt := rfl
  have e2 : y.toInt = y.toBitVec.toInt := rfl
  have e3 : (x ||| y).toInt = (x ||| y).toBitVec.toInt := rfl
  have hx := x.toBitVec.isLt
  have hy := y.toBitVec.isLt
  have n1 : x.toBitVec.toInt = (x.toBitVec.toNat : Int) ∧ 2 * x.toBitVec.toNat < 4294967296 := by
    rw [e1, BitVec.toInt_eq_toNat_cond] at h0
    rw [BitVec.toInt_eq_toNat_cond]
    split at h0
    · rename_i h; rw [if_pos h]; exact ⟨rfl, h⟩
    · omega
  have n2 : y.toBitVec.toInt = (y.toBitVec.toNat : Int) := by
    rw [e2, BitVec.toInt_eq_toNat_cond] at h2
    rw [BitVec.toInt_eq_toNat_cond]
    split at h2
    · rename_i h; rw [if_pos h]
    · omega
  have hx2 : x.toBitVec.toNat < 2 ^ m := by
    rw [e1, n1.1] at h1
    exact h1
  have hy2 : y.toBitVec.toNat % 2 ^ m = 0 := by
    rw [e2, n2] at h3
    exact h3
  obtain ⟨q, hq⟩ : ∃ q, y.toBitVec.toNat = q * 2 ^ m := ⟨y.toBitVec.toNat / 2 ^ m, by rw [Nat.div_mul_cancel (Nat.dvd_of_mod_eq_zero hy2)]⟩
  have e5 : (x ||| y).toBitVec.toNat = x.toBitVec.toNat + y.toBitVec.toNat := by
    rw [Int32.toBitVec_or, BitVec.toNat_or, Nat.or_comm, hq, ← Nat.shiftLeft_eq, ← Nat.shiftLeft_add_eq_or_of_lt hx2, Nat.add_comm]
  rw [e3, BitVec.toInt_eq_toNat_cond, e5, if_pos (by omega), e1, e2, n1.1, n2]
  omega
theorem zshl_mul {y s : Int32} {m : Nat} (e1 : (y <<< s).toBitVec = y.toBitVec <<< m) (h0 : 0 ≤ y.toInt) (h1 : y.toInt.toNat * 2 ^ m < 2147483648) : (y <<< s).toInt = ((y.toInt.toNat * 2 ^ m : Nat) : Int) := by
  have e2 : y.toInt = y.toBitVec.toInt := rfl
  have e3 : (y <<< s).toInt = (y <<< s).toBitVec.toInt := rfl
  have n1 : y.toBitVec.toInt = (y.toBitVec.toNat : Int) := by
    rw [e2, BitVec.toInt_eq_toNat_cond] at h0
    rw [BitVec.toInt_eq_toNat_cond]
    split at h0
    · rename_i h; rw [if_pos h]
    · have := y.toBitVec.isLt
      omega
  have n2 : y.toInt.toNat = y.toBitVec.toNat := by
    rw [e2, n1]
    rfl
  rw [n2] at h1 ⊢
  have e5 : y.toBitVec.toNat * 2 ^ m % 2 ^ 32 = y.toBitVec.toNat * 2 ^ m := Nat.mod_eq_of_lt (by omega)
  rw [e3, e1, BitVec.toInt_eq_toNat_cond, BitVec.toNat_shiftLeft, Nat.shiftLeft_eq, e5, if_pos (by omega)]
theorem zofI {v : Int} (h0 : -2147483648 ≤ v) (h1 : v < 2147483648) : (Int32.ofInt v).toInt = v := by
  exact Int32.toInt_ofInt_of_le (by omega) (by omega)
theorem zxor_pk0 {v : Int} {n m b : Nat} (hb : 2 ^ m = b) (h0 : 0 ≤ v) (h1 : v < (b : Int)) (h3 : n ≤ 26) (hl : b ≤ 33554432) : zxor v ((n * b : Nat) : Int) = v + ((n * b : Nat) : Int) := by
  have hm : n * b ≤ 26 * b := Nat.mul_le_mul_right b h3
  have ev := zofI (v := v) (by omega) (by omega)
  have ey := zofI (v := ((n * b : Nat) : Int)) (by omega) (by omega)
  have r := zor_add (x := Int32.ofInt v) (y := Int32.ofInt ((n * b : Nat) : Int)) (m := m) (by omega) (by rw [ev, hb]; omega) (by omega) (by rw [ey, hb, Int.toNat_natCast]; exact Nat.mul_mod_left n b) (by omega)
  unfold zxor
  rw [r, ev, ey]
theorem zxshl_pk0 {n m b : Nat} {k : Int} (hb : 2 ^ m = b) (h3 : n ≤ 26) (hl : b ≤ 33554432) (e1 : (Int32.ofInt (n : Int) <<< (Int32.ofInt k &&& 31)).toBitVec = (Int32.ofInt (n : Int)).toBitVec <<< m) : zxshl (n : Int) k = ((n * b : Nat) : Int) := by
  have hm : n * b ≤ 26 * b := Nat.mul_le_mul_right b h3
  have ex := zofI (v := (n : Int)) (by omega) (by omega)
  have r := zshl_mul e1 (by omega) (by rw [ex, Int.toNat_natCast, hb]; omega)
  unfold zxshl
  rw [r, ex, Int.toNat_natCast, hb]
/-- one more letter of a word -/
theorem zxor_pk {v x : Int} {k : Nat} (hk : k ≤ 5) (h0 : 0 ≤ v) (h1 : v < 32 ^ k) (h2 : 1 ≤ x) (h3 : x ≤ 26) : zxor v (zxshl x (5 * (k : Int))) = v + x * 32 ^ k := by
  obtain ⟨n, rfl⟩ : ∃ n : Nat, x = (n : Int) := ⟨x.toNat, by omega⟩
  have c : k = 0 ∨ k = 1 ∨ k = 2 ∨ k = 3 ∨ k = 4 ∨ k = 5 := by omega
  rcases c with c | c | c | c | c | c <;> subst c
  · have e : (32 : Int) ^ 0 = ((1 : Nat) : Int) := by decide
    rw [e] at h1
    have e2 : (n : Int) * 32 ^ 0 = ((n * 1 : Nat) : Int) := by
      rw [e, Int.natCast_mul]
    rw [e2, zxshl_pk0 (m := 0) (b := 1) (by decide) (by omega) (by decide) (by rw [Int32.toBitVec_shiftLeft]; rfl)]
    exact zxor_pk0 (m := 0) (by decide) h0 h1 (by omega) (by decide)
  · have e : (32 : Int) ^ 1 = ((32 : Nat) : Int) := by decide
    rw [e] at h1
    have e2 : (n : Int) * 32 ^ 1 = ((n * 32 : Nat) : Int) := by
      rw [e, Int.natCast_mul]
    rw [e2, zxshl_pk0 (m := 5) (b := 32) (by decide) (by omega) (by decide) (by rw [Int32.toBitVec_shiftLeft]; rfl)]
    exact zxor_pk0 (m := 5) (by decide) h0 h1 (by omega) (by decide)
  · have e : (32 : Int) ^ 2 = ((1024 : Nat) : Int) := by decide
    rw [e] at h1
    have e2 : (n : Int) * 32 ^ 2 = ((n * 1024 : Nat) : Int) := by
      rw [e, Int.natCast_mul]
    rw [e2, zxshl_pk0 (m := 10) (b := 1024) (by decide) (by omega) (by decide) (by rw [Int32.toBitVec_shiftLeft]; rfl)]
    exact zxor_pk0 (m := 10) (by decide) h0 h1 (by omega) (by decide)
  · have e : (32 : Int) ^ 3 = ((32768 : Nat) : Int) := by decide
    rw [e] at h1
    have e2 : (n : Int) * 32 ^ 3 = ((n * 32768 : Nat) : Int) := by
      rw [e, Int.natCast_mul]
    rw [e2, zxshl_pk0 (m := 15) (b := 32768) (by decide) (by omega) (by decide) (by rw [Int32.toBitVec_shiftLeft]; rfl)]
    exact zxor_pk0 (m := 15) (by decide) h0 h1 (by omega) (by decide)
  · have e : (32 : Int) ^ 4 = ((1048576 : Nat) : Int) := by decide
    rw [e] at h1
    have e2 : (n : Int) * 32 ^ 4 = ((n * 1048576 : Nat) : Int) := by
      rw [e, Int.natCast_mul]
    rw [e2, zxshl_pk0 (m := 20) (b := 1048576) (by decide) (by omega) (by decide) (by rw [Int32.toBitVec_shiftLeft]; rfl)]
    exact zxor_pk0 (m := 20) (by decide) h0 h1 (by omega) (by decide)
  · have e : (32 : Int) ^ 5 = ((33554432 : Nat) : Int) := by decide
    rw [e] at h1
    have e2 : (n : Int) * 32 ^ 5 = ((n * 33554432 : Nat) : Int) := by
      rw [e, Int.natCast_mul]
    rw [e2, zxshl_pk0 (m := 25) (b := 33554432) (by decide) (by omega) (by decide) (by rw [Int32.toBitVec_shiftLeft]; rfl)]
    exact zxor_pk0 (m := 25) (by decide) h0 h1 (by omega) (by decide)
def zxadd (a b : Int) : Int := (Int32.ofInt a + Int32.ofInt b).toInt
def zxsub (a b : Int) : Int := (Int32.ofInt a - Int32.ofInt b).toInt
def zxmul (a b : Int) : Int := (Int32.ofInt a * Int32.ofInt b).toInt
theorem zxadd_i (x y : Int32) : (x + y).toInt = zxadd x.toInt y.toInt := by
  unfold zxadd
  rw [Int32.ofInt_toInt, Int32.ofInt_toInt]
theorem zxsub_i (x y : Int32) : (x - y).toInt = zxsub x.toInt y.toInt := by
  unfold zxsub
  rw [Int32.ofInt_toInt, Int32.ofInt_toInt]
theorem zxmul_i (x y : Int32) : (x * y).toInt = zxmul x.toInt y.toInt := by
  unfold zxmul
  rw [Int32.ofInt_toInt, Int32.ofInt_toInt]
theorem zxadd_e {a b : Int} (ha : -2147483648 ≤ a ∧ a < 2147483648) (hb : -2147483648 ≤ b ∧ b < 2147483648) (h : -2147483648 ≤ a + b ∧ a + b < 2147483648) : zxadd a b = a + b := by
  have ea := zofI ha.1 ha.2
  have eb := zofI hb.1 hb.2
  unfold zxadd
  rw [zadd_i (by omega) (by omega), ea, eb]
theorem zxsub_e {a b : Int} (ha : -2147483648 ≤ a ∧ a < 2147483648) (hb : -2147483648 ≤ b ∧ b < 2147483648) (h : -2147483648 ≤ a - b ∧ a - b < 2147483648) : zxsub a b = a - b := by
  have ea := zofI ha.1 ha.2
  have eb := zofI hb.1 hb.2
  unfold zxsub
  rw [zsub_i (by omega) (by omega), ea, eb]
theorem zxmul_e {a b : Int} (ha : -2147483648 ≤ a ∧ a < 2147483648) (hb : -2147483648 ≤ b ∧ b < 2147483648) (h : -2147483648 ≤ a * b ∧ a * b < 2147483648) : zxmul a b = a * b := by
  have ea := zofI ha.1 ha.2
  have eb := zofI hb.1 hb.2
  unfold zxmul
  rw [zmul_i (by rw [ea, eb]; exact h.1) (by rw [ea, eb]; exact h.2), ea, eb]
section ZEX2
variable {X : List Int32} {d own : Nat} {ini : Bool} {ret : Option FieldType} {cc : ByteArray} {Q : zRes → Prop} {pc n : Nat} {i : Instr} {ml ml' : zML} {st st' : List Value} {M M' : zM} {x y c : Int32}
theorem w_incE {kk : Nat} {m : Int} (hd : decode cc pc = .ok (.iinc kk m, 3)) (hx : ml[kk]? = some (some (.int x))) (hm : (Int32.ofInt m).toInt = m) (k : ∀ z : Int32, z.toInt = zxadd x.toInt m → ∃ ml', zst ml kk (.int z) = some ml' ∧ ZW X d own ini ret cc Q (pc + 3, ml', st, M)) : ZW X d own ini ret cc Q (pc, ml, st, M) := by
  obtain ⟨ml', h1, h2⟩ := k (x + Int32.ofInt m) (by rw [zxadd_i, hm])
  refine w_lo hd ?_ ?_ ?_ (zinc rfl hx ml' h1) h2
  · cases st <;> rfl
  · cases st <;> rfl
  · cases st <;> rfl
theorem w_orE {m : Nat} (hd : decode cc pc = .ok (.ior, 1)) (hm : m ≤ 30) (h0 : 0 ≤ x.toInt) (h1 : x.toInt < (2 : Int) ^ m) (h2 : 0 ≤ y.toInt) (h3 : y.toInt < (2 : Int) ^ m) (k : ∀ z : Int32, 0 ≤ z.toInt → z.toInt < (2 : Int) ^ m → z = x ||| y → ZW X d own ini ret cc Q (pc + 1, ml, .int z :: st, M)) : ZW X d own ini ret cc Q (pc, ml, .int y :: .int x :: st, M) := by
  have e1 : x.toInt = x.toBitVec.toInt := rfl
  have e2 : y.toInt = y.toBitVec.toInt := rfl
  have e3 : (x ||| y).toInt = (x ||| y).toBitVec.toInt := rfl
  have e5 : (2 : Int) ^ m = ((2 ^ m : Nat) : Int) := by norm_cast
  have e6 : (2 : Nat) ^ m ≤ 2 ^ 30 := Nat.pow_le_pow_right (by decide) hm
  rw [e1, ztI] at h0 h1
  rw [e2, ztI] at h2 h3
  have hx := x.toBitVec.isLt
  have hy := y.toBitVec.isLt
  have n1 : x.toBitVec.toNat < 2 ^ m := by split at h1 <;> omega
  have n2 : y.toBitVec.toNat < 2 ^ m := by split at h3 <;> omega
  have n3 : (x ||| y).toBitVec.toNat < 2 ^ m := by
    rw [Int32.toBitVec_or, BitVec.toNat_or]
    exact Nat.or_lt_two_pow n1 n2
  refine w_pu hd rfl rfl (k _ ?_ ?_ rfl)
  · rw [e3, ztI, if_pos (by omega)]
    omega
  · rw [e3, ztI, if_pos (by omega)]
    omega
end ZEX2
