/-! rows with exact long numbers -/
def zxlsr (a b : Int) : Int := (Int64.ofInt a >>> ((Int32.ofInt b).toInt64 &&& 63)).toInt
def zxland (a b : Int) : Int := (Int64.ofInt a &&& Int64.ofInt b).toInt
theorem zxlsr_i (x : Int64) (y : Int32) : (x >>> (y.toInt64 &&& 63)).toInt = zxlsr x.toInt y.toInt := by
  unfold zxlsr
  rw [Int64.ofInt_toInt, Int32.ofInt_toInt]
theorem zxland_i (x y : Int64) : (x &&& y).toInt = zxland x.toInt y.toInt := by
  unfold zxland
  rw [Int64.ofInt_toInt, Int64.ofInt_toInt]
theorem zlI (b : BitVec 64) : b.toInt = if 2 * b.toNat < 18446744073709551616 then (b.toNat : Int) else (b.toNat : Int) - 18446744073709551616 := BitVec.toInt_eq_toNat_cond b
theorem zland_i {x y : Int64} {m : Nat} (hm : y.toInt = (m : Int)) : 0 ≤ (x &&& y).toInt ∧ (x &&& y).toInt ≤ (m : Int) := by
  have h1 : (x &&& y).toBitVec.toNat ≤ y.toBitVec.toNat := by
    rw [Int64.toBitVec_and, BitVec.toNat_and]
    exact Nat.and_le_right
  have h2 : y.toInt = y.toBitVec.toInt := rfl
  have h3 : (x &&& y).toInt = (x &&& y).toBitVec.toInt := rfl
  rw [h2, zlI] at hm
  rw [h3, zlI]
  have h4 := y.toBitVec.isLt
  split at hm
  · rw [if_pos (by omega)]
    omega
  · omega
section ZEL
variable {X : List Int32} {d own : Nat} {ini : Bool} {ret : Option FieldType} {cc : ByteArray} {Q : zRes → Prop} {pc n : Nat} {i : Instr} {ml ml' : zML} {st st' : List Value} {M M' : zM}
theorem w_exL {v : Int64} (hd : decode cc pc = .ok (i, n)) (h1 : zret ret i st = none) (h : zpure i st = some (n, .long v :: st')) (k : ∀ z : Int64, z = v → ZW X d own ini ret cc Q (pc + n, ml, .long z :: st', M)) : ZW X d own ini ret cc Q (pc, ml, st, M) := w_pu hd h1 h (k v rfl)
theorem w_landE {x y : Int64} {m : Nat} (hd : decode cc pc = .ok (.land, 1)) (hm : y.toInt = (m : Int)) (k : ∀ z : Int64, 0 ≤ z.toInt → z.toInt ≤ (m : Int) → z = x &&& y → ZW X d own ini ret cc Q (pc + 1, ml, .long z :: st, M)) : ZW X d own ini ret cc Q (pc, ml, .long y :: .long x :: st, M) := w_pu hd rfl rfl (k _ (zland_i hm).1 (zland_i hm).2 rfl)
end ZEL
set_option maxRecDepth 16384 in
/-- a number shifted by whole bytes -/
theorem zxlsr_e {a : Int} {m : Nat} (h0 : 0 ≤ a) (h1 : a < 9223372036854775808) (hm : m ≤ 6) : zxlsr a (8 * (m : Int)) = a / 256 ^ m := by
  have e : (Int64.ofInt a).toInt = a := Int64.toInt_ofInt_of_le (by omega) (by omega)
  have hs : (((Int32.ofInt (8 * (m : Int))).toInt64 &&& 63).toBitVec.smod 64).toNat = 8 * m := by
    have hc : m = 0 ∨ m = 1 ∨ m = 2 ∨ m = 3 ∨ m = 4 ∨ m = 5 ∨ m = 6 := by omega
    rcases hc with z | z | z | z | z | z | z <;> subst z <;> decide
  show ((Int64.ofInt a).toBitVec.sshiftRight (((Int32.ofInt (8 * (m : Int))).toInt64 &&& 63).toBitVec.smod 64).toNat).toInt = _
  rw [hs, BitVec.toInt_sshiftRight, Int.shiftRight_eq_div_pow]
  have e2 : (Int64.ofInt a).toBitVec.toInt = a := e
  rw [e2]
  congr 1
  rw [Nat.pow_mul]
  norm_cast
theorem zxland_e {a : Int} (h0 : 0 ≤ a) (h1 : a < 9223372036854775808) : zxland a 255 = a % 256 := by
  have e : (Int64.ofInt a).toInt = a := Int64.toInt_ofInt_of_le (by omega) (by omega)
  have e2 : (Int64.ofInt a).toBitVec.toInt = a := e
  rw [zlI] at e2
  have hl := (Int64.ofInt a).toBitVec.isLt
  have n1 : ((Int64.ofInt a).toBitVec.toNat : Int) = a := by split at e2 <;> omega
  show ((Int64.ofInt a) &&& (Int64.ofInt 255)).toBitVec.toInt = _
  have h3 : ((Int64.ofInt a) &&& (Int64.ofInt 255)).toBitVec.toNat = (Int64.ofInt a).toBitVec.toNat % 256 := by
    rw [Int64.toBitVec_and, BitVec.toNat_and]
    rw [show (Int64.ofInt 255).toBitVec.toNat = 2 ^ 8 - 1 by decide]
    exact Nat.and_two_pow_sub_one_eq_mod _ 8
  rw [zlI, h3, if_pos (by omega)]
  omega
