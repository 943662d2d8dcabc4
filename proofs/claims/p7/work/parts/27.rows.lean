/-! rows over the box -/
theorem znb {x : Int32} (h0 : 0 ≤ x.toInt) (h1 : x.toInt ≤ 1) : narrow .boolean (.int x) = .int x := by
  have h : x.toInt = 0 ∨ x.toInt = 1 := by omega
  rcases h with h | h
  · rw [zpt (c := 0) rfl h]; rfl
  · rw [zpt (c := 1) (by decide : (1 : Int32).toInt = 1) h]; rfl
theorem zfitI {x : Int32} (h0 : 0 ≤ x.toInt) (h1 : x.toInt ≤ 1) : (x == 0 || x == 1) = true := by
  have h : x.toInt = 0 ∨ x.toInt = 1 := by omega
  rcases h with h | h
  · rw [zpt (c := 0) rfl h]; rfl
  · rw [zpt (c := 1) (by decide : (1 : Int32).toInt = 1) h]; rfl
theorem zT_u {a : Nat} {t : Nat × Int × Int} (h : zTT[a]? = some (true, [t])) : ∀ k, zT a k = t := by
  intro k
  unfold zT
  rw [h]
theorem zbot (x : Int32) : (-2147483648 : Int) ≤ x.toInt := by
  have := Int32.le_toInt x
  omega
theorem ztop (x : Int32) : x.toInt ≤ 2147483647 := by
  have := Int32.toInt_lt x
  omega
theorem zlbot (x : Int64) : (-9223372036854775808 : Int) ≤ x.toInt := by
  have := Int64.le_toInt x
  omega
theorem zltop (x : Int64) : x.toInt ≤ 9223372036854775807 := by
  have := Int64.toInt_lt x
  omega
theorem zcut (a b : Int) : a < b ∨ b ≤ a := by omega
theorem znat {x : Int32} (h : 0 ≤ x.toInt) : x.toInt = ((x.toInt.toNat : Nat) : Int) := by omega
def zDmL : List Nat := [7, 28]
def zDm (r : Nat) : Prop := r ∈ zDmL
theorem zDm_b {r : Nat} (h : zDm r) : 7 ≤ r ∧ r ≤ 28 := (by decide +kernel : ∀ r ∈ zDmL, 7 ≤ r ∧ r ≤ 28) r h
def zLwL : List Nat := [20, 41]
def zLw (r : Nat) : Prop := r ∈ zLwL
theorem zLw_b {r : Nat} (h : zLw r) : 20 ≤ r ∧ r ≤ 41 := (by decide +kernel : ∀ r ∈ zLwL, 20 ≤ r ∧ r ≤ 41) r h
def zRpL : List Nat := [49, 63, 79, 93, 107, 121, 135, 149, 163, 177, 191, 205, 219, 233, 247, 261, 275, 289, 303, 317, 331, 345, 367]
def zRp (r : Nat) : Prop := r ∈ zRpL
theorem zRp_b {r : Nat} (h : zRp r) : (49 ≤ r ∧ r ≤ 345) ∨ r = 367 := (by decide +kernel : ∀ r ∈ zRpL, (49 ≤ r ∧ r ≤ 345) ∨ r = 367) r h
def zTgL : List Nat := [360, 362, 381]
def zTg (r : Nat) : Prop := r ∈ zTgL
theorem zTg_b {r : Nat} (h : zTg r) : 360 ≤ r ∧ r ≤ 381 := (by decide +kernel : ∀ r ∈ zTgL, 360 ≤ r ∧ r ≤ 381) r h
theorem zDm_or {r : Nat} (h : zDm r) : r = 7 ∨ r = 28 := (by decide +kernel : ∀ r ∈ zDmL, r = 7 ∨ r = 28) r h
theorem zLw_of {r : Nat} (h : zDm r) : zLw (r + 13) := (by unfold zLw; decide +kernel : ∀ r ∈ zDmL, zLw (r + 13)) r h
section ZBR
variable {X : List Int32} {d own N : Nat} {ini : Bool} {ret : Option FieldType} {cc : ByteArray} {Q : zRes → Prop} {pc n : Nat} {i : Instr} {ml ml' : zML} {st st' : List Value} {M M0 : zM} {x y c : Int32} {lo hi : Int} {R : zRL}
theorem w_puI {v : Int32} (hd : decode cc pc = .ok (i, n)) (h1 : zret ret i st = none) (h : zpure i st = some (n, .int v :: st')) (k : ∀ z : Int32, ZW X d own ini ret cc Q (pc + n, ml, .int z :: st', M)) : ZW X d own ini ret cc Q (pc, ml, st, M) := w_pu hd h1 h (k v)
theorem w_puL {v : Int64} (hd : decode cc pc = .ok (i, n)) (h1 : zret ret i st = none) (h : zpure i st = some (n, .long v :: st')) (k : ∀ z : Int64, ZW X d own ini ret cc Q (pc + n, ml, .long z :: st', M)) : ZW X d own ini ret cc Q (pc, ml, st, M) := w_pu hd h1 h (k v)
theorem w_meL {v : Int64} (hd : decode cc pc = .ok (i, n)) (h1 : zret ret i st = none) (h2 : zpure i st = none) (h3 : zbr i pc n st = none) (h4 : zloc i ml st = none) (h : zmem own ini X i st M = some (n, .long v :: st, M)) (k : ∀ z : Int64, ZW X d own ini ret cc Q (pc + n, ml, .long z :: st, M)) : ZW X d own ini ret cc Q (pc, ml, st, M) := w_me hd h1 h2 h3 h4 h (k v)
theorem zadd_i {x y : Int32} (h1 : -2147483648 ≤ x.toInt + y.toInt) (h2 : x.toInt + y.toInt < 2147483648) : (x + y).toInt = x.toInt + y.toInt := by
  rw [Int32.toInt_add, Int.bmod_eq_of_le (by omega) (by omega)]
theorem zsub_i {x y : Int32} (h1 : -2147483648 ≤ x.toInt - y.toInt) (h2 : x.toInt - y.toInt < 2147483648) : (x - y).toInt = x.toInt - y.toInt := by
  rw [Int32.toInt_sub, Int.bmod_eq_of_le (by omega) (by omega)]
theorem zmul_i {x y : Int32} (h1 : -2147483648 ≤ x.toInt * y.toInt) (h2 : x.toInt * y.toInt < 2147483648) : (x * y).toInt = x.toInt * y.toInt := by
  rw [Int32.toInt_mul, Int.bmod_eq_of_le (by omega) (by omega)]
theorem w_add (hd : decode cc pc = .ok (.iadd, 1)) (h : -2147483648 ≤ x.toInt + y.toInt ∧ x.toInt + y.toInt < 2147483648) (k : ∀ z : Int32, z.toInt = x.toInt + y.toInt → ZW X d own ini ret cc Q (pc + 1, ml, .int z :: st, M)) : ZW X d own ini ret cc Q (pc, ml, .int y :: .int x :: st, M) := w_pu hd rfl rfl (k _ (zadd_i h.1 h.2))
theorem w_sub (hd : decode cc pc = .ok (.isub, 1)) (h : -2147483648 ≤ x.toInt - y.toInt ∧ x.toInt - y.toInt < 2147483648) (k : ∀ z : Int32, z.toInt = x.toInt - y.toInt → ZW X d own ini ret cc Q (pc + 1, ml, .int z :: st, M)) : ZW X d own ini ret cc Q (pc, ml, .int y :: .int x :: st, M) := w_pu hd rfl rfl (k _ (zsub_i h.1 h.2))
theorem w_mulc {m : Int} (hd : decode cc pc = .ok (.imul, 1)) (hm : x.toInt = m) (h : -2147483648 ≤ m * y.toInt ∧ m * y.toInt < 2147483648) (k : ∀ z : Int32, z.toInt = m * y.toInt → ZW X d own ini ret cc Q (pc + 1, ml, .int z :: st, M)) : ZW X d own ini ret cc Q (pc, ml, .int y :: .int x :: st, M) := by
  subst hm
  exact w_pu hd rfl rfl (k _ (zmul_i h.1 h.2))
theorem w_mulk {m : Int} (hd : decode cc pc = .ok (.imul, 1)) (hm : y.toInt = m) (h : -2147483648 ≤ m * x.toInt ∧ m * x.toInt < 2147483648) (k : ∀ z : Int32, z.toInt = m * x.toInt → ZW X d own ini ret cc Q (pc + 1, ml, .int z :: st, M)) : ZW X d own ini ret cc Q (pc, ml, .int y :: .int x :: st, M) := by
  subst hm
  refine w_pu hd rfl rfl (k _ ?_)
  rw [Int.mul_comm] at h ⊢
  exact zmul_i h.1 h.2
theorem zinc {kk : Nat} {m : Int} {cI : Int32} (hc : Int32.ofInt m = cI) (hi : ml[kk]? = some (some (.int x))) : ∀ ml', zst ml kk (.int (x + cI)) = some ml' → zloc (.iinc kk m) ml st = some (3, ml', st) := by
  intro ml' h
  subst hc
  simp only [zloc, hi, h, Option.map_some]
theorem w_inc {kk : Nat} {m : Int} (hd : decode cc pc = .ok (.iinc kk m, 3)) (hx : ml[kk]? = some (some (.int x))) (hm : (Int32.ofInt m).toInt = m) (h : -2147483648 ≤ x.toInt + m ∧ x.toInt + m < 2147483648) (k : ∀ z : Int32, z.toInt = x.toInt + m → ∃ ml', zst ml kk (.int z) = some ml' ∧ ZW X d own ini ret cc Q (pc + 3, ml', st, M)) : ZW X d own ini ret cc Q (pc, ml, st, M) := by
  obtain ⟨ml', h1, h2⟩ := k (x + Int32.ofInt m) (by rw [zadd_i (by omega) (by omega), hm])
  refine w_lo hd ?_ ?_ ?_ (zinc rfl hx ml' h1) h2
  · cases st <;> rfl
  · cases st <;> rfl
  · cases st <;> rfl
theorem w_incT {kk : Nat} {m : Int} (hd : decode cc pc = .ok (.iinc kk m, 3)) (hx : ml[kk]? = some (some (.int x))) (k : ∀ z : Int32, ∃ ml', zst ml kk (.int z) = some ml' ∧ ZW X d own ini ret cc Q (pc + 3, ml', st, M)) : ZW X d own ini ret cc Q (pc, ml, st, M) := by
  obtain ⟨ml', h1, h2⟩ := k (x + Int32.ofInt m)
  refine w_lo hd ?_ ?_ ?_ (zinc rfl hx ml' h1) h2
  · cases st <;> rfl
  · cases st <;> rfl
  · cases st <;> rfl
theorem ztI (b : BitVec 32) : b.toInt = if 2 * b.toNat < 4294967296 then (b.toNat : Int) else (b.toNat : Int) - 4294967296 := BitVec.toInt_eq_toNat_cond b
theorem zand_i {m : Nat} (hm : y.toInt = (m : Int)) : 0 ≤ (x &&& y).toInt ∧ (x &&& y).toInt ≤ (m : Int) := by
  have h1 : (x &&& y).toBitVec.toNat ≤ y.toBitVec.toNat := by
    rw [Int32.toBitVec_and, BitVec.toNat_and]
    exact Nat.and_le_right
  have h2 : y.toInt = y.toBitVec.toInt := rfl
  have h3 : (x &&& y).toInt = (x &&& y).toBitVec.toInt := rfl
  rw [h2, ztI] at hm
  rw [h3, ztI]
  have h4 := y.toBitVec.isLt
  split at hm
  · rw [if_pos (by omega)]
    omega
  · omega
theorem w_and {m : Nat} (hd : decode cc pc = .ok (.iand, 1)) (hm : y.toInt = (m : Int)) (hm2 : m < 2147483648) (k : ∀ z : Int32, 0 ≤ z.toInt → z.toInt ≤ (m : Int) → ZW X d own ini ret cc Q (pc + 1, ml, .int z :: st, M)) : ZW X d own ini ret cc Q (pc, ml, .int y :: .int x :: st, M) := w_pu hd rfl rfl (k _ (zand_i hm).1 (zand_i hm).2)
theorem w_lc {m : Fin 2} {c : Int64} (hd : decode cc pc = .ok (.lconst m, 1)) (hc : Int64.ofNat (m : Nat) = c) (k : ZW X d own ini ret cc Q (pc + 1, ml, .long c :: st, M)) : ZW X d own ini ret cc Q (pc, ml, st, M) := by
  subst hc
  exact w_pu hd (by cases st <;> rfl) rfl k
theorem w_i2l (hd : decode cc pc = .ok (.i2l, 1)) (k : ∀ z : Int64, z.toInt = x.toInt → ZW X d own ini ret cc Q (pc + 1, ml, .long z :: st, M)) : ZW X d own ini ret cc Q (pc, ml, .int x :: st, M) := w_pu hd rfl rfl (k _ (Int32.toInt_toInt64 x))
theorem w_l2i {y : Int64} (hd : decode cc pc = .ok (.l2i, 1)) (h : -2147483648 ≤ y.toInt ∧ y.toInt < 2147483648) (k : ∀ z : Int32, z.toInt = y.toInt → ZW X d own ini ret cc Q (pc + 1, ml, .int z :: st, M)) : ZW X d own ini ret cc Q (pc, ml, .long y :: st, M) := by
  refine w_pu hd rfl rfl (k _ ?_)
  rw [Int64.toInt_toInt32, Int.bmod_eq_of_le (by omega) (by omega)]
theorem w_lcm {x y : Int64} (hd : decode cc pc = .ok (.lcmp, 1)) (k : ∀ z : Int32, (z.toInt = -1 ∧ x.toInt < y.toInt ∨ z.toInt = 0 ∧ x.toInt = y.toInt ∨ z.toInt = 1 ∧ y.toInt < x.toInt) → ZW X d own ini ret cc Q (pc + 1, ml, .int z :: st, M)) : ZW X d own ini ret cc Q (pc, ml, .long y :: .long x :: st, M) := by
  refine w_pu hd rfl rfl (k _ ?_)
  unfold lg_cmp
  by_cases h : x > y
  · rw [if_pos h]
    exact Or.inr (Or.inr ⟨by decide, Int64.lt_iff_toInt_lt.mp h⟩)
  · rw [if_neg h]
    by_cases h2 : x = y
    · rw [if_pos h2]
      exact Or.inr (Or.inl ⟨by decide, by rw [h2]⟩)
    · rw [if_neg h2]
      refine Or.inl ⟨by decide, ?_⟩
      have h3 : ¬ y.toInt < x.toInt := fun z => h (Int64.lt_iff_toInt_lt.mpr z)
      have h4 : x.toInt ≠ y.toInt := fun z => h2 (Int64.toInt_inj.mp z)
      omega
theorem w_ladd {x y : Int64} (hd : decode cc pc = .ok (.ladd, 1)) (h : -9223372036854775808 ≤ x.toInt + y.toInt ∧ x.toInt + y.toInt < 9223372036854775808) (k : ∀ z : Int64, z.toInt = x.toInt + y.toInt → ZW X d own ini ret cc Q (pc + 1, ml, .long z :: st, M)) : ZW X d own ini ret cc Q (pc, ml, .long y :: .long x :: st, M) := by
  refine w_pu hd rfl rfl (k _ ?_)
  rw [Int64.toInt_add, Int.bmod_eq_of_le (by omega) (by omega)]
theorem w_lsub {x y : Int64} (hd : decode cc pc = .ok (.lsub, 1)) (h : -9223372036854775808 ≤ x.toInt - y.toInt ∧ x.toInt - y.toInt < 9223372036854775808) (k : ∀ z : Int64, z.toInt = x.toInt - y.toInt → ZW X d own ini ret cc Q (pc + 1, ml, .long z :: st, M)) : ZW X d own ini ret cc Q (pc, ml, .long y :: .long x :: st, M) := by
  refine w_pu hd rfl rfl (k _ ?_)
  rw [Int64.toInt_sub, Int.bmod_eq_of_le (by omega) (by omega)]
theorem w_lmulc {x y : Int64} {m : Int} (hd : decode cc pc = .ok (.lmul, 1)) (hm : x.toInt = m) (h : -9223372036854775808 ≤ m * y.toInt ∧ m * y.toInt < 9223372036854775808) (k : ∀ z : Int64, z.toInt = m * y.toInt → ZW X d own ini ret cc Q (pc + 1, ml, .long z :: st, M)) : ZW X d own ini ret cc Q (pc, ml, .long y :: .long x :: st, M) := by
  subst hm
  refine w_pu hd rfl rfl (k _ ?_)
  rw [Int64.toInt_mul, Int.bmod_eq_of_le (by omega) (by omega)]
theorem zldv {x y : Int64} (hx : 0 ≤ x.toInt) (hy : 0 < y.toInt) : (x / y).toInt = x.toInt / y.toInt := by
  have h3 := zltop x
  rw [Int64.toInt_div, Int.tdiv_eq_ediv_of_nonneg hx, Int.bmod_eq_of_le]
  · have := Int.ediv_nonneg hx (Int.le_of_lt hy); omega
  · have := Int.ediv_le_self y.toInt hx; omega
theorem w_ldivT {x y : Int64} (hd : decode cc pc = .ok (.ldiv, 1)) (hy : y.toInt ≠ 0) (k : ∀ z : Int64, ZW X d own ini ret cc Q (pc + 1, ml, .long z :: st, M)) : ZW X d own ini ret cc Q (pc, ml, .long y :: .long x :: st, M) := by
  have hy0 : y ≠ 0 := fun z => hy (by rw [z]; rfl)
  refine w_pu (st' := .long (x / y) :: st) hd rfl ?_ (k _)
  simp only [zpure]
  rw [if_neg hy0]
theorem w_lremT {x y : Int64} (hd : decode cc pc = .ok (.lrem, 1)) (hy : y.toInt ≠ 0) (k : ∀ z : Int64, ZW X d own ini ret cc Q (pc + 1, ml, .long z :: st, M)) : ZW X d own ini ret cc Q (pc, ml, .long y :: .long x :: st, M) := by
  have hy0 : y ≠ 0 := fun z => hy (by rw [z]; rfl)
  refine w_pu (st' := .long (x - x / y * y) :: st) hd rfl ?_ (k _)
  simp only [zpure]
  rw [if_neg hy0]
theorem w_ldivP {x y : Int64} (hd : decode cc pc = .ok (.ldiv, 1)) (hx : 0 ≤ x.toInt) (hy : 0 < y.toInt) (k : ∀ z : Int64, 0 ≤ z.toInt → z.toInt ≤ x.toInt → z.toInt = x.toInt / y.toInt → ZW X d own ini ret cc Q (pc + 1, ml, .long z :: st, M)) : ZW X d own ini ret cc Q (pc, ml, .long y :: .long x :: st, M) := by
  have hy0 : y ≠ 0 := fun z => by rw [z] at hy; exact absurd hy (by decide)
  refine w_pu (st' := .long (x / y) :: st) hd rfl ?_ (k _ ?_ ?_ (zldv hx hy))
  · simp only [zpure]
    rw [if_neg hy0]
  · rw [zldv hx hy]
    exact Int.ediv_nonneg hx (Int.le_of_lt hy)
  · rw [zldv hx hy]
    exact Int.ediv_le_self _ hx
theorem w_lremP {x y : Int64} (hd : decode cc pc = .ok (.lrem, 1)) (hx : 0 ≤ x.toInt) (hy : 0 < y.toInt) (k : ∀ z : Int64, 0 ≤ z.toInt → z.toInt < y.toInt → z.toInt ≤ x.toInt → ZW X d own ini ret cc Q (pc + 1, ml, .long z :: st, M)) : ZW X d own ini ret cc Q (pc, ml, .long y :: .long x :: st, M) := by
  have hy0 : y ≠ 0 := fun z => by rw [z] at hy; exact absurd hy (by decide)
  have hyr : zpure .lrem (.long y :: .long x :: st) = some (1, .long (x - x / y * y) :: st) := by
    simp only [zpure]
    rw [if_neg hy0]
  refine w_pu hd rfl hyr ?_
  have h3 := zltop x
  have hdv := zldv hx hy
  have hq0 : 0 ≤ x.toInt / y.toInt := Int.ediv_nonneg hx (Int.le_of_lt hy)
  have hq1 : x.toInt / y.toInt * y.toInt ≤ x.toInt := Int.ediv_mul_le _ (Int.ne_of_gt hy)
  have hq2 : 0 ≤ x.toInt / y.toInt * y.toInt := Int.mul_nonneg hq0 (Int.le_of_lt hy)
  have hml : (x / y * y).toInt = x.toInt / y.toInt * y.toInt := by
    rw [Int64.toInt_mul, hdv, Int.bmod_eq_of_le (by omega) (by omega)]
  have hq3 : x.toInt < x.toInt / y.toInt * y.toInt + y.toInt := by
    have := Int.lt_ediv_add_one_mul_self x.toInt hy
    rw [Int.add_mul, Int.one_mul] at this
    exact this
  have hsb : (x - x / y * y).toInt = x.toInt - x.toInt / y.toInt * y.toInt := by
    rw [Int64.toInt_sub, hml, Int.bmod_eq_of_le (by omega) (by omega)]
  exact k _ (by rw [hsb]; omega) (by rw [hsb]; omega) (by rw [hsb]; omega)
theorem w_or {m : Nat} (hd : decode cc pc = .ok (.ior, 1)) (hm : m ≤ 30) (h0 : 0 ≤ x.toInt) (h1 : x.toInt < (2 : Int) ^ m) (h2 : 0 ≤ y.toInt) (h3 : y.toInt < (2 : Int) ^ m) (k : ∀ z : Int32, 0 ≤ z.toInt → z.toInt < (2 : Int) ^ m → ZW X d own ini ret cc Q (pc + 1, ml, .int z :: st, M)) : ZW X d own ini ret cc Q (pc, ml, .int y :: .int x :: st, M) := by
  have e1 : x.toInt = x.toBitVec.toInt := rfl
  have e2 : y.toInt = y.toBitVec.toInt := rfl
  have e3 : (x ||| y).toInt = (x ||| y).toBitVec.toInt := rfl
  have e5 : (2 : Int) ^ m = ((2 ^ m : Nat) : Int) := by norm_cast
  have e6 : (2 : Nat) ^ m ≤ 2 ^ 30 := Nat.pow_le_pow_right (by decide) hm
  rw [e1, ztI] at h0 h1
  rw [e2, ztI] at h2 h3
  have hx := x.toBitVec.isLt
  have hy := y.toBitVec.isLt
  have n1 : x.toBitVec.toNat < 2 ^ m := by split at h1 <;> omega
  have n2 : y.toBitVec.toNat < 2 ^ m := by split at h3 <;> omega
  have n3 : (x ||| y).toBitVec.toNat < 2 ^ m := by
    rw [Int32.toBitVec_or, BitVec.toNat_or]
    exact Nat.or_lt_two_pow n1 n2
  refine w_pu hd rfl rfl (k _ ?_ ?_)
  · rw [e3, ztI, if_pos (by omega)]
    omega
  · rw [e3, ztI, if_pos (by omega)]
    omega
theorem w_lshrP {a : Int64} {m : Nat} {p : Int} (hd : decode cc pc = .ok (.lshr, 1)) (hs : ((y.toInt64 &&& 63).toBitVec.smod 64).toNat = m) (hp : ((2 ^ m : Nat) : Int) = p) (h0 : 0 ≤ a.toInt) (k : ∀ z : Int64, 0 ≤ z.toInt → z.toInt = a.toInt / p → ZW X d own ini ret cc Q (pc + 1, ml, .long z :: st, M)) : ZW X d own ini ret cc Q (pc, ml, .int y :: .long a :: st, M) := by
  have e : (a >>> (y.toInt64 &&& 63)).toInt = a.toInt / p := by
    show (a.toBitVec.sshiftRight ((y.toInt64 &&& 63).toBitVec.smod 64).toNat).toInt = _
    rw [hs, BitVec.toInt_sshiftRight, ← hp, ← Int.shiftRight_eq_div_pow]
    rfl
  have hp0 : 0 ≤ p := by rw [← hp]; exact Int.natCast_nonneg _
  exact w_pu hd rfl rfl (k _ (by rw [e]; exact Int.ediv_nonneg h0 hp0) e)
theorem w_shrP {m : Nat} {p : Int} (hd : decode cc pc = .ok (.ishr, 1)) (hs : ((y &&& 31).toBitVec.smod 32).toNat = m) (hp : ((2 ^ m : Nat) : Int) = p) (h0 : 0 ≤ x.toInt) (k : ∀ z : Int32, 0 ≤ z.toInt → z.toInt = x.toInt / p → ZW X d own ini ret cc Q (pc + 1, ml, .int z :: st, M)) : ZW X d own ini ret cc Q (pc, ml, .int y :: .int x :: st, M) := by
  have e : (x >>> (y &&& 31)).toInt = x.toInt / p := by
    rw [pk_shr _ _ m hs, ← hp, ← Int.shiftRight_eq_div_pow]
  have hp0 : 0 ≤ p := by rw [← hp]; exact Int.natCast_nonneg _
  exact w_pu hd rfl rfl (k _ (by rw [e]; exact Int.ediv_nonneg h0 hp0) e)
theorem w_remP (hd : decode cc pc = .ok (.irem, 1)) (hx : 0 ≤ x.toInt) (hy : 0 < y.toInt) (k : ∀ z : Int32, 0 ≤ z.toInt → z.toInt < y.toInt → z.toInt ≤ x.toInt → ZW X d own ini ret cc Q (pc + 1, ml, .int z :: st, M)) : ZW X d own ini ret cc Q (pc, ml, .int y :: .int x :: st, M) := by
  have hy0 : y ≠ 0 := fun z => by rw [z] at hy; exact absurd hy (by decide)
  have hyr : zpure .irem (.int y :: .int x :: st) = some (1, .int (x - x / y * y) :: st) := by
    simp only [zpure]
    rw [if_neg hy0]
  refine w_pu hd rfl hyr ?_
  have h3 := ztop x
  have h4 := ztop y
  have hdv : (x / y).toInt = x.toInt / y.toInt := by
    rw [Int32.toInt_div, Int.tdiv_eq_ediv_of_nonneg hx, Int.bmod_eq_of_le]
    · have := Int.ediv_nonneg hx (Int.le_of_lt hy); omega
    · have := Int.ediv_le_self y.toInt hx; omega
  have hq0 : 0 ≤ x.toInt / y.toInt := Int.ediv_nonneg hx (Int.le_of_lt hy)
  have hq1 : x.toInt / y.toInt * y.toInt ≤ x.toInt := Int.ediv_mul_le _ (Int.ne_of_gt hy)
  have hq2 : 0 ≤ x.toInt / y.toInt * y.toInt := Int.mul_nonneg hq0 (Int.le_of_lt hy)
  have hml : (x / y * y).toInt = x.toInt / y.toInt * y.toInt := by
    rw [zmul_i (by rw [hdv]; omega) (by rw [hdv]; omega), hdv]
  have hq3 : x.toInt < x.toInt / y.toInt * y.toInt + y.toInt := by
    have := Int.lt_ediv_add_one_mul_self x.toInt hy
    rw [Int.add_mul, Int.one_mul] at this
    exact this
  have hsb : (x - x / y * y).toInt = x.toInt - x.toInt / y.toInt * y.toInt := by
    rw [zsub_i (by rw [hml]; omega) (by rw [hml]; omega), hml]
  exact k _ (by rw [hsb]; omega) (by rw [hsb]; omega) (by rw [hsb]; omega)
theorem w_remT (hd : decode cc pc = .ok (.irem, 1)) (hy : y.toInt ≠ 0) (k : ∀ z : Int32, ZW X d own ini ret cc Q (pc + 1, ml, .int z :: st, M)) : ZW X d own ini ret cc Q (pc, ml, .int y :: .int x :: st, M) := by
  have hy0 : y ≠ 0 := fun z => hy (by rw [z]; rfl)
  refine w_pu (st' := .int (x - x / y * y) :: st) hd rfl ?_ (k _)
  simp only [zpure]
  rw [if_neg hy0]
theorem w_divT (hd : decode cc pc = .ok (.idiv, 1)) (hy : y.toInt ≠ 0) (k : ∀ z : Int32, ZW X d own ini ret cc Q (pc + 1, ml, .int z :: st, M)) : ZW X d own ini ret cc Q (pc, ml, .int y :: .int x :: st, M) := by
  have hy0 : y ≠ 0 := fun z => hy (by rw [z]; rfl)
  refine w_pu (st' := .int (x / y) :: st) hd rfl ?_ (k _)
  simp only [zpure]
  rw [if_neg hy0]
theorem w_divP (hd : decode cc pc = .ok (.idiv, 1)) (hx : 0 ≤ x.toInt) (hy : 0 < y.toInt) (k : ∀ z : Int32, 0 ≤ z.toInt → z.toInt ≤ x.toInt → z.toInt = x.toInt / y.toInt → ZW X d own ini ret cc Q (pc + 1, ml, .int z :: st, M)) : ZW X d own ini ret cc Q (pc, ml, .int y :: .int x :: st, M) := by
  have hy0 : y ≠ 0 := fun z => by rw [z] at hy; exact absurd hy (by decide)
  have hyr : zpure .idiv (.int y :: .int x :: st) = some (1, .int (x / y) :: st) := by
    simp only [zpure]
    rw [if_neg hy0]
  refine w_pu hd rfl hyr ?_
  have h3 := ztop x
  have hdv : (x / y).toInt = x.toInt / y.toInt := by
    rw [Int32.toInt_div, Int.tdiv_eq_ediv_of_nonneg hx, Int.bmod_eq_of_le]
    · have := Int.ediv_nonneg hx (Int.le_of_lt hy); omega
    · have := Int.ediv_le_self y.toInt hx; omega
  have h5 := Int.ediv_nonneg hx (Int.le_of_lt hy)
  have h6 := Int.ediv_le_self y.toInt hx
  exact k _ (by omega) (by omega) hdv
theorem w_eni {v : Int32} {ty : FieldType} (hd : decode cc pc = .ok (.ireturn, 1)) (hr : ret = some ty) (hn : narrow ty (.int v) = .int v) (k : Q (some (.int v), M)) : ZW X d own ini ret cc Q (pc, ml, [.int v], M) := w_en hd (by rw [hr]; simp only [zret]; rw [if_pos hn]) k
/-- 1 << y -/
theorem w_shl {m : Nat} (hd : decode cc pc = .ok (.ishl, 1)) (h0 : 0 ≤ y.toInt) (h1 : y.toInt ≤ 20) (h2 : y.toInt ≤ (m : Int)) (k : ∀ z : Int32, 1 ≤ z.toInt → z.toInt ≤ (2 : Int) ^ m → ZW X d own ini ret cc Q (pc + 1, ml, .int z :: st, M)) : ZW X d own ini ret cc Q (pc, ml, .int y :: .int 1 :: st, M) := by
  refine w_pu hd rfl rfl ?_
  obtain ⟨j, hj⟩ : ∃ j : Nat, y.toInt = (j : Int) := ⟨y.toInt.toNat, by omega⟩
  have hy : y = nI j := zpt (n := (j : Int)) (nI_toInt (by omega)) hj
  have hall : ∀ j : Nat, j < 21 → ((1 : Int32) <<< (nI j &&& 31)).toInt = (2 : Int) ^ j := by decide +kernel
  have h5 := hall j (by omega)
  rw [hy]
  refine k _ ?_ ?_
  · rw [h5]
    have := Int.pow_pos (n := 2) (m := j) (by decide)
    omega
  · rw [h5]
    have h6 : (2 : Nat) ^ j ≤ 2 ^ m := Nat.pow_le_pow_right (by decide) (by omega)
    exact_mod_cast h6
theorem w_mxI {idx : Nat} {s' : List Value} (hd : decode cc pc = .ok (.invokestatic idx, 3)) (hcl : zcall own idx = some (5, 0)) (hcat : zcat s' ≤ 8) (k : ∀ z : Int32, x.toInt ≤ z.toInt → y.toInt ≤ z.toInt → (z.toInt = x.toInt ∨ z.toInt = y.toInt) → ZW X d own ini ret cc Q (pc + 3, ml, .int z :: s', M)) : ZW X d own ini ret cc Q (pc, ml, .int y :: .int x :: s', M) := by
  refine w_mx hd hcl hcat ?_
  by_cases h : x < y
  · rw [if_pos h]
    have h' := Int32.lt_iff_toInt_lt.mp h
    exact k _ (by omega) (by omega) (Or.inr rfl)
  · rw [if_neg h]
    have h' : ¬ x.toInt < y.toInt := fun z => h (Int32.lt_iff_toInt_lt.mpr z)
    exact k _ (by omega) (by omega) (Or.inl rfl)
theorem w_mnI {idx : Nat} {s' : List Value} (hd : decode cc pc = .ok (.invokestatic idx, 3)) (hcl : zcall own idx = some (6, 0)) (hcat : zcat s' ≤ 8) (k : ∀ z : Int32, z.toInt ≤ x.toInt → z.toInt ≤ y.toInt → (z.toInt = x.toInt ∨ z.toInt = y.toInt) → ZW X d own ini ret cc Q (pc + 3, ml, .int z :: s', M)) : ZW X d own ini ret cc Q (pc, ml, .int y :: .int x :: s', M) := by
  refine w_mn hd hcl hcat ?_
  by_cases h : y < x
  · rw [if_pos h]
    have h' := Int32.lt_iff_toInt_lt.mp h
    exact k _ (by omega) (by omega) (Or.inr rfl)
  · rw [if_neg h]
    have h' : ¬ y.toInt < x.toInt := fun z => h (Int32.lt_iff_toInt_lt.mpr z)
    exact k _ (by omega) (by omega) (Or.inl rfl)
/-- indexOf of a text -/
theorem w_ix {idx j a : Nat} {s' : List Value} (hd : decode cc pc = .ok (.invokevirtual idx, 3)) (hcl : zcall own idx = some (10, j)) (hcat : zcat s' ≤ 8) (ha : a = zBig + 1 ∨ a = zBig + 2) (k : ∀ z : Int32, ZW X (d + 4) own ini ret cc Q (pc + 3, ml, .int z :: s', M)) : ZW X (d + 4) own ini ret cc Q (pc, ml, .int x :: .ref a :: s', M) := by
  have hc : ZC X (d + 4) 3330 [.ref a, .int x] M (some (.int (zixF x (ztx (a - (zBig + 1))) 0)), M) := by
    refine ⟨0, ?_⟩
    unfold zev
    rw [show zmt 3330 = none from rfl]
    simp only []
    rw [if_pos (by omega)]
    simp only [zprm]
    rw [if_pos ha]
  obtain ⟨r, h1, h2⟩ := k (zixF x (ztx (a - (zBig + 1))) 0)
  refine ⟨r, ZX.ca hc hd rfl rfl rfl rfl rfl ?_ h1, h2⟩
  simp only [zinv, hcl]
  rw [if_pos ⟨ha, hcat⟩, if_pos (by simp)]
  rfl
theorem w_gfi {idx ci k a nn : Nat} {s' : List Value} (hd : decode cc pc = .ok (.getfield idx, 3)) (hf : zfld own idx = some (ci, k)) (hB : zB N M) (he : zS0[a]? = some (ci, nn)) (hk : k < nn) (ht : zT a k = (0, lo, hi)) (kk : ∀ v : Int32, zvl M a k = some (.int v) → lo ≤ v.toInt → v.toInt ≤ hi → ZW X d own ini ret cc Q (pc + 3, ml, .int v :: s', M)) : ZW X d own ini ret cc Q (pc, ml, .ref a :: s', M) := by
  obtain ⟨v, h1, h2, h3⟩ := zB_int hB he hk ht
  exact w_gf hd hf hB.1 he h1 (kk v h1 h2 h3)
theorem w_gfc {idx ci k a nn : Nat} {s' : List Value} (hd : decode cc pc = .ok (.getfield idx, 3)) (hf : zfld own idx = some (ci, k)) (hB : zB N M) (he : zS0[a]? = some (ci, nn)) (hk : k < nn) (ht : zT a k = (5, lo, hi)) (kk : ∀ v : Int32, zvl M a k = some (.int v) → lo ≤ v.toInt → v.toInt ≤ hi * N → ZW X d own ini ret cc Q (pc + 3, ml, .int v :: s', M)) : ZW X d own ini ret cc Q (pc, ml, .ref a :: s', M) := by
  obtain ⟨v, h1, h2, h3⟩ := zB_cnt hB he hk ht
  exact w_gf hd hf hB.1 he h1 (kk v h1 h2 h3)
theorem w_gfl {idx ci k a nn : Nat} {s' : List Value} (hd : decode cc pc = .ok (.getfield idx, 3)) (hf : zfld own idx = some (ci, k)) (hB : zB N M) (he : zS0[a]? = some (ci, nn)) (hk : k < nn) (ht : zT a k = (1, lo, hi)) (kk : ∀ v : Int64, zvl M a k = some (.long v) → lo ≤ v.toInt → v.toInt ≤ hi → ZW X d own ini ret cc Q (pc + 3, ml, .long v :: s', M)) : ZW X d own ini ret cc Q (pc, ml, .ref a :: s', M) := by
  obtain ⟨v, h1, h2, h3⟩ := zB_long hB he hk ht
  exact w_gf hd hf hB.1 he h1 (kk v h1 h2 h3)
theorem zput_all {a k kind nn : Nat} {v : Value} (hJ : zJ N R M0 M) (he : zS0[a]? = some (kind, nn)) (hk : k < nn) (hv : zIn N (zT a k) v) (hr : zIR R a k) {P : zM → Prop} (kk : ∀ M', zJ N R M0 M' → zvl M' a k = some v → (∀ a' k', (a ≠ a' ∨ k ≠ k') → zvl M' a' k' = zvl M a' k') → P M') : P (zput M a k v) := kk _ (zJ_put hJ he hv hr) (zvl_put hJ.1.1 he hk) (fun _ _ h => zvl_ne h)
theorem w_pfg {idx ci k a nn : Nat} {s' : List Value} {v : Value} (hd : decode cc pc = .ok (.putfield idx, 3)) (hf : zfld own idx = some (ci, k)) (hJ : zJ N R M0 M) (he : zS0[a]? = some (ci, nn)) (hk : k < nn) (hv : zIn N (zT a k) v) (hr : zIR R a k) (hq1 : narrow (zty ci k) v = v) (hq2 : fits (zty ci k) v = true) (hq3 : (ztb ci k).2.2.2 = false) (kk : ∀ M', zJ N R M0 M' → zvl M' a k = some v → (∀ a' k', (a ≠ a' ∨ k ≠ k') → zvl M' a' k' = zvl M a' k') → ZW X d own ini ret cc Q (pc + 3, ml, s', M')) : ZW X d own ini ret cc Q (pc, ml, v :: .ref a :: s', M) := by
  obtain ⟨vs, h1, h2, h3⟩ := zSh_get hJ.1.1 he
  have h4 := zput_all hJ he hk hv hr kk
  rw [zput_eq h1] at h4
  exact ZW.of (fun _ z => ZX.pf hd hf h3 ⟨by omega, hq1, hq2, fun h => by rw [hq3] at h; cases h⟩ z) h4
theorem w_pfi {idx ci k a nn : Nat} {s' : List Value} (hd : decode cc pc = .ok (.putfield idx, 3)) (hf : zfld own idx = some (ci, k)) (hJ : zJ N R M0 M) (he : zS0[a]? = some (ci, nn)) (hk : k < nn) (ht : zT a k = (0, lo, hi)) (hv0 : lo ≤ y.toInt) (hv1 : y.toInt ≤ hi) (hr : zIR R a k) (hq1 : narrow (zty ci k) (.int y) = .int y) (hq2 : fits (zty ci k) (.int y) = true) (hq3 : (ztb ci k).2.2.2 = false) (kk : ∀ M', zJ N R M0 M' → zvl M' a k = some (.int y) → (∀ a' k', (a ≠ a' ∨ k ≠ k') → zvl M' a' k' = zvl M a' k') → ZW X d own ini ret cc Q (pc + 3, ml, s', M')) : ZW X d own ini ret cc Q (pc, ml, .int y :: .ref a :: s', M) := w_pfg hd hf hJ he hk (by rw [ht]; exact ⟨hv0, hv1⟩) hr hq1 hq2 hq3 kk
theorem w_pfc {idx ci k a nn : Nat} {s' : List Value} (hd : decode cc pc = .ok (.putfield idx, 3)) (hf : zfld own idx = some (ci, k)) (hJ : zJ N R M0 M) (he : zS0[a]? = some (ci, nn)) (hk : k < nn) (ht : zT a k = (5, lo, hi)) (hv0 : lo ≤ y.toInt) (hv1 : y.toInt ≤ hi * N) (hr : zIR R a k) (hq1 : narrow (zty ci k) (.int y) = .int y) (hq2 : fits (zty ci k) (.int y) = true) (hq3 : (ztb ci k).2.2.2 = false) (kk : ∀ M', zJ N R M0 M' → zvl M' a k = some (.int y) → (∀ a' k', (a ≠ a' ∨ k ≠ k') → zvl M' a' k' = zvl M a' k') → ZW X d own ini ret cc Q (pc + 3, ml, s', M')) : ZW X d own ini ret cc Q (pc, ml, .int y :: .ref a :: s', M) := w_pfg hd hf hJ he hk (by rw [ht]; exact ⟨hv0, hv1⟩) hr hq1 hq2 hq3 kk
theorem w_pfl {idx ci k a nn : Nat} {s' : List Value} {v : Int64} (hd : decode cc pc = .ok (.putfield idx, 3)) (hf : zfld own idx = some (ci, k)) (hJ : zJ N R M0 M) (he : zS0[a]? = some (ci, nn)) (hk : k < nn) (ht : zT a k = (1, lo, hi)) (hv0 : lo ≤ v.toInt) (hv1 : v.toInt ≤ hi) (hr : zIR R a k) (hq1 : narrow (zty ci k) (.long v) = .long v) (hq2 : fits (zty ci k) (.long v) = true) (hq3 : (ztb ci k).2.2.2 = false) (kk : ∀ M', zJ N R M0 M' → zvl M' a k = some (.long v) → (∀ a' k', (a ≠ a' ∨ k ≠ k') → zvl M' a' k' = zvl M a' k') → ZW X d own ini ret cc Q (pc + 3, ml, s', M')) : ZW X d own ini ret cc Q (pc, ml, .long v :: .ref a :: s', M) := w_pfg hd hf hJ he hk (by rw [ht]; exact ⟨hv0, hv1⟩) hr hq1 hq2 hq3 kk
theorem w_pfd {idx ci k a nn b b1 b2 : Nat} {s' : List Value} (hd : decode cc pc = .ok (.putfield idx, 3)) (hf : zfld own idx = some (ci, k)) (hJ : zJ N R M0 M) (he : zS0[a]? = some (ci, nn)) (hk : k < nn) (ht : zT a k = (3, (b1 : Int), (b2 : Int))) (hb : b = b1 ∨ b = b2) (hr : zIR R a k) (hq1 : narrow (zty ci k) (.ref b) = .ref b) (hq2 : fits (zty ci k) (.ref b) = true) (hq3 : (ztb ci k).2.2.2 = false) (kk : ∀ M', zJ N R M0 M' → zvl M' a k = some (.ref b) → (∀ a' k', (a ≠ a' ∨ k ≠ k') → zvl M' a' k' = zvl M a' k') → ZW X d own ini ret cc Q (pc + 3, ml, s', M')) : ZW X d own ini ret cc Q (pc, ml, .ref b :: .ref a :: s', M) := w_pfg hd hf hJ he hk (by rw [ht]; exact hb.imp (fun z => by rw [z]) (fun z => by rw [z])) hr hq1 hq2 hq3 kk
theorem zB_big {a : Nat} {kind nn : Nat} (hB : zB N M) (he : zS0[a]? = some (kind, nn)) : a ≠ zBig := by
  obtain ⟨vs, h1, h2, h3⟩ := zSh_get hB.1 he
  have hlt2 : a < M.length := (List.getElem?_eq_some_iff.mp h1).1
  have h4 : M.length = 440 := zSh_len hB.1
  unfold zBig
  omega
theorem w_iai {a nn : Nat} {s' : List Value} (hd : decode cc pc = .ok (.iaload, 1)) (hB : zB N M) (he : zS0[a]? = some (10, nn)) (hx0 : 0 ≤ x.toInt) (hx1 : x.toInt < (nn : Int)) (hu : ∀ k, zT a k = (0, lo, hi)) (kk : ∀ v : Int32, zvl M a x.toInt.toNat = some (.int v) → lo ≤ v.toInt → v.toInt ≤ hi → ZW X d own ini ret cc Q (pc + 1, ml, .int v :: s', M)) : ZW X d own ini ret cc Q (pc, ml, .int x :: .ref a :: s', M) := by
  obtain ⟨v, h1, h2, h3⟩ := zB_int hB he (k := x.toInt.toNat) (by omega) (hu _)
  exact w_ia hd hB.1 he (znat hx0) h1 (kk v h1 h2 h3)
theorem w_bai {a nn : Nat} {s' : List Value} (hd : decode cc pc = .ok (.baload, 1)) (hB : zB N M) (he : zS0[a]? = some (12, nn)) (hx0 : 0 ≤ x.toInt) (hx1 : x.toInt < (nn : Int)) (hu : ∀ k, zT a k = (0, lo, hi)) (kk : ∀ v : Int32, zvl M a x.toInt.toNat = some (.int v) → lo ≤ v.toInt → v.toInt ≤ hi → ZW X d own ini ret cc Q (pc + 1, ml, .int v :: s', M)) : ZW X d own ini ret cc Q (pc, ml, .int x :: .ref a :: s', M) := by
  obtain ⟨v, h1, h2, h3⟩ := zB_int hB he (k := x.toInt.toNat) (by omega) (hu _)
  obtain ⟨vs, g1, g2, g3⟩ := zSh_get hB.1 he
  refine w_me (n := 1) hd rfl rfl rfl rfl ?_ (kk v h1 h2 h3)
  rw [zvl_eq g1] at h1
  simp only [zmem, zald, g3, zidxI (znat hx0) (by omega : x.toInt.toNat < vs.length), h1, Option.map_some]
theorem w_lal {a nn : Nat} {s' : List Value} (hd : decode cc pc = .ok (.laload, 1)) (hB : zB N M) (he : zS0[a]? = some (11, nn)) (hx0 : 0 ≤ x.toInt) (hx1 : x.toInt < (nn : Int)) (hu : ∀ k, zT a k = (1, lo, hi)) (kk : ∀ v : Int64, zvl M a x.toInt.toNat = some (.long v) → ZW X d own ini ret cc Q (pc + 1, ml, .long v :: s', M)) : ZW X d own ini ret cc Q (pc, ml, .int x :: .ref a :: s', M) := by
  obtain ⟨v, h1, h2, h3⟩ := zB_long hB he (k := x.toInt.toNat) (by omega) (hu _)
  obtain ⟨vs, g1, g2, g3⟩ := zSh_get hB.1 he
  refine w_me (n := 1) hd rfl rfl rfl rfl ?_ (kk v h1)
  rw [zvl_eq g1] at h1
  simp only [zmem, zald, g3, zidxI (znat hx0) (by omega : x.toInt.toNat < vs.length), h1, Option.map_some]
theorem w_isi {a nn : Nat} {s' : List Value} (hd : decode cc pc = .ok (.iastore, 1)) (hJ : zJ N R M0 M) (he : zS0[a]? = some (10, nn)) (hx0 : 0 ≤ x.toInt) (hx1 : x.toInt < (nn : Int)) (hu : ∀ k, zT a k = (0, lo, hi)) (hv0 : lo ≤ y.toInt) (hv1 : y.toInt ≤ hi) (hr : zIR R a x.toInt.toNat) (kk : ∀ M', zJ N R M0 M' → zvl M' a x.toInt.toNat = some (.int y) → (∀ a' k', (a ≠ a' ∨ x.toInt.toNat ≠ k') → zvl M' a' k' = zvl M a' k') → ZW X d own ini ret cc Q (pc + 1, ml, s', M')) : ZW X d own ini ret cc Q (pc, ml, .int y :: .int x :: .ref a :: s', M) := by
  obtain ⟨vs, h1, h2, h3⟩ := zSh_get hJ.1.1 he
  have h4 := zput_all (v := .int y) hJ he (k := x.toInt.toNat) (by omega) (by rw [hu]; exact ⟨hv0, hv1⟩) hr kk
  rw [zput_eq h1] at h4
  exact ZW.of (fun _ z => ZX.is hd h3 (zidxI (znat hx0) (by omega)) z) h4
theorem w_bsi {a nn : Nat} {s' : List Value} (hd : decode cc pc = .ok (.bastore, 1)) (hJ : zJ N R M0 M) (he : zS0[a]? = some (12, nn)) (hx0 : 0 ≤ x.toInt) (hx1 : x.toInt < (nn : Int)) (hu : ∀ k, zT a k = (0, 0, 1)) (hv0 : 0 ≤ y.toInt) (hv1 : y.toInt ≤ 1) (hr : zIR R a x.toInt.toNat) (kk : ∀ M', zJ N R M0 M' → zvl M' a x.toInt.toNat = some (.int y) → (∀ a' k', (a ≠ a' ∨ x.toInt.toNat ≠ k') → zvl M' a' k' = zvl M a' k') → ZW X d own ini ret cc Q (pc + 1, ml, s', M')) : ZW X d own ini ret cc Q (pc, ml, .int y :: .int x :: .ref a :: s', M) := by
  obtain ⟨vs, h1, h2, h3⟩ := zSh_get hJ.1.1 he
  have h4 := zput_all (v := .int y) hJ he (k := x.toInt.toNat) (by omega) (by rw [hu]; exact ⟨hv0, hv1⟩) hr kk
  rw [zput_eq h1] at h4
  refine w_me (n := 1) hd rfl rfl rfl rfl ?_ h4
  simp only [zmem, zast, h3, zidxI (znat hx0) (by omega : x.toInt.toNat < vs.length), Option.map_some]
  rw [if_pos (znb hv0 hv1)]
theorem w_lsi {a nn : Nat} {s' : List Value} {v : Int64} (hd : decode cc pc = .ok (.lastore, 1)) (hJ : zJ N R M0 M) (he : zS0[a]? = some (11, nn)) (hx0 : 0 ≤ x.toInt) (hx1 : x.toInt < (nn : Int)) (hu : ∀ k, zT a k = (1, -9223372036854775808, 9223372036854775807)) (hr : zIR R a x.toInt.toNat) (kk : ∀ M', zJ N R M0 M' → zvl M' a x.toInt.toNat = some (.long v) → (∀ a' k', (a ≠ a' ∨ x.toInt.toNat ≠ k') → zvl M' a' k' = zvl M a' k') → ZW X d own ini ret cc Q (pc + 1, ml, s', M')) : ZW X d own ini ret cc Q (pc, ml, .long v :: .int x :: .ref a :: s', M) := by
  obtain ⟨vs, h1, h2, h3⟩ := zSh_get hJ.1.1 he
  have h4 := zput_all (v := .long v) hJ he (k := x.toInt.toNat) (by omega) (by rw [hu]; exact ⟨zlbot v, zltop v⟩) hr kk
  rw [zput_eq h1] at h4
  refine w_me (n := 1) hd rfl rfl rfl rfl ?_ h4
  simp only [zmem, zast, h3, zidxI (znat hx0) (by omega : x.toInt.toNat < vs.length), Option.map_some]
theorem w_al {a nn kind : Nat} {s' : List Value} (hd : decode cc pc = .ok (.arraylength, 1)) (hS : zSh M) (he : zS0[a]? = some (kind, nn)) (hc : nI nn = c) (hk : 10 ≤ kind ∧ kind < 14) (kk : ZW X d own ini ret cc Q (pc + 1, ml, .int c :: s', M)) : ZW X d own ini ret cc Q (pc, ml, .ref a :: s', M) := by
  obtain ⟨vs, h1, h2, h3⟩ := zSh_get hS he
  have hlt2 : a < M.length := (List.getElem?_eq_some_iff.mp h1).1
  have hb : a ≠ zBig := by
    have h4 : M.length = 440 := zSh_len hS
    unfold zBig
    omega
  refine w_me (n := 1) hd rfl rfl rfl rfl ?_ kk
  simp only [zmem, h1]
  rw [if_neg hb, if_pos hk, h2, hc]
theorem w_alp {a nn : Nat} {s' : List Value} (hd : decode cc pc = .ok (.arraylength, 1)) (hS : zSh M) (he : zS0[a]? = some (10, nn)) (hn : nn ≤ 1601) (kk : ∀ z : Int32, z.toInt = (nn : Int) → ZW X d own ini ret cc Q (pc + 1, ml, .int z :: s', M)) : ZW X d own ini ret cc Q (pc, ml, .ref a :: s', M) := w_al hd hS he rfl ⟨by decide, by decide⟩ (kk _ (nI_toInt (by omega)))
theorem zall_J {a kind nn : Nat} {ws : List Value} (hJ : zJ N R M0 M) (he : zS0[a]? = some (kind, nn)) (hl : ws.length = nn) (hv : ∀ k v, ws[k]? = some v → zIn N (zT a k) v) (hr : ∀ k, zIR R a k) : zJ N R M0 (M.set a (kind, ws)) ∧ ∀ a' k', a ≠ a' → zvl (M.set a (kind, ws)) a' k' = zvl M a' k' := by
  obtain ⟨vs, h1, h2, h3⟩ := zSh_get hJ.1.1 he
  have hlt : a < M.length := (List.getElem?_eq_some_iff.mp h1).1
  have hne : ∀ a' k', a ≠ a' → zvl (M.set a (kind, ws)) a' k' = zvl M a' k' := by
    intro a' k' h
    unfold zvl
    rw [List.getElem?_set_ne h]
  have heq : ∀ k', zvl (M.set a (kind, ws)) a k' = ws[k']? := fun k' => zvl_eq (kind := kind) (by rw [List.getElem?_set_self hlt])
  refine ⟨⟨⟨zSh_set hJ.1.1 h1 (by omega), fun a' k' v h => ?_⟩, fun a' k' h => ?_⟩, hne⟩
  · by_cases q : a = a'
    · subst q
      rw [heq] at h
      exact hv k' v h
    · rw [hne a' k' q] at h
      exact hJ.1.2 a' k' v h
  · by_cases q : a = a'
    · subst q
      exact absurd (hr k') h
    · rw [hne a' k' q]
      exact hJ.2 a' k' h
/-- System.arraycopy from 0 to 0 -/
theorem w_cpG {idx a b n1 n2 m kd : Nat} {s' : List Value} {lo1 hi1 lo2 hi2 : Int} (hkd : kd = 10 ∨ kd = 12 ∧ lo1 = 0 ∧ hi1 = 1) (hd : decode cc pc = .ok (.invokestatic idx, 3)) (hcl : zcall own idx = some (7, 0)) (hcat : zcat s' ≤ 8) (hJ : zJ N R M0 M) (he1 : zS0[b]? = some (kd, n1)) (he2 : zS0[a]? = some (kd, n2)) (hm : c.toInt = (m : Int)) (hm1 : m ≤ n1) (hm2 : m ≤ n2) (hu1 : ∀ k, zT b k = (0, lo1, hi1)) (hu2 : ∀ k, zT a k = (0, lo2, hi2)) (hb1 : lo2 ≤ lo1) (hb2 : hi1 ≤ hi2) (hr : ∀ k, zIR R a k) (kk : ∀ M', zJ N R M0 M' → (∀ a' k', (a ≠ a' ∨ False) → zvl M' a' k' = zvl M a' k') → ZW X d own ini ret cc Q (pc + 3, ml, s', M')) : ZW X d own ini ret cc Q (pc, ml, .int c :: .int 0 :: .ref a :: .int 0 :: .ref b :: s', M) := by
  obtain ⟨f, f1, f2, f3⟩ := zSh_get hJ.1.1 he1
  obtain ⟨g, g1, g2, g3⟩ := zSh_get hJ.1.1 he2
  obtain ⟨c1, c2⟩ := zclampI hm
  have z0 : ((0 : Int32).toNatClampNeg) = 0 := by decide
  have z0' : ¬ ((0 : Int32) < 0) := by decide
  have hfv : ∀ (k : Nat) (v : Value), f[k]? = some v → ∃ x : Int32, v = Value.int x ∧ lo1 ≤ x.toInt ∧ x.toInt ≤ hi1 := by
    intro k v hv
    have hlt : k < f.length := (List.getElem?_eq_some_iff.mp hv).1
    obtain ⟨x, h1, h2, h3⟩ := zB_int hJ.1 he1 (k := k) (by omega) (hu1 k)
    rw [zvl_eq f1, hv] at h1
    cases h1
    exact ⟨x, rfl, h2, h3⟩
  have hlen : (zcpy f g 0 0 m).length = n2 := by
    unfold zcpy
    simp
    omega
  have hws : ∀ (k : Nat) (v : Value), (zcpy f g 0 0 m)[k]? = some v → zIn N (zT a k) v := by
    intro k v hv
    unfold zcpy at hv
    simp only [List.take_zero, List.nil_append, List.drop_zero, Nat.zero_add] at hv
    rw [List.getElem?_append] at hv
    split at hv
    · rw [List.getElem?_take] at hv
      split at hv
      · obtain ⟨x, rfl, h2, h3⟩ := hfv k v hv
        rw [hu2]
        exact ⟨by dsimp only; omega, by dsimp only; omega⟩
      · cases hv
    · rename_i hge
      rw [List.getElem?_drop] at hv
      have e : m + (k - (List.take m f).length) = k := by
        simp at hge ⊢
        omega
      rw [e] at hv
      exact hJ.1.2 a k v (by rw [zvl_eq g1]; exact hv)
  obtain ⟨j1, j2⟩ := zall_J hJ he2 hlen hws hr
  refine w_in (M' := M.set a (kd, zcpy f g 0 0 m)) (st' := s') hd rfl rfl rfl rfl rfl ?_ (kk _ j1 (fun a' k' h => j2 a' k' (h.resolve_right id)))
  simp only [zinv, hcl, zacpy, f1, g1]
  rw [if_pos, c1, z0]
  refine ⟨trivial, ?_, z0', z0', c2, ?_, ?_, ?_, hcat⟩
  · rcases hkd with h | ⟨h, -, -⟩
    · exact Or.inl h
    · exact Or.inr h
  · rw [z0, c1]; omega
  · rw [z0, c1]; omega
  · rw [z0, c1, List.all_eq_true]
    intro v hv
    rw [List.drop_zero] at hv
    obtain ⟨k, hk⟩ := List.getElem?_of_mem (List.mem_of_mem_take hv)
    obtain ⟨x, rfl, h2, h3⟩ := hfv k v hk
    rcases hkd with rfl | ⟨rfl, rfl, rfl⟩
    · rfl
    · exact zfitI h2 h3
theorem w_aai {s' : List Value} (hd : decode cc pc = .ok (.aaload, 1)) (hB : zB N M) (hx0 : 0 ≤ x.toInt) (hx1 : x.toInt < 20) (kk : ∀ b : Nat, zRp b → 79 ≤ b ∧ b ≤ 345 → zvl M 78 x.toInt.toNat = some (.ref b) → ZW X d own ini ret cc Q (pc + 1, ml, .ref b :: s', M)) : ZW X d own ini ret cc Q (pc, ml, .int x :: .ref 78 :: s', M) := by
  have he : zS0[78]? = some (13, 20) := rfl
  have ht : ∀ k, k < 20 → zT 78 k = (2, ((79 + 14 * k : Nat) : Int), 0) := by decide +kernel
  have hr : ∀ k, k < 20 → zRp (79 + 14 * k) := by unfold zRp; decide +kernel
  have h1 := zB_ref hB he (k := x.toInt.toNat) (by omega) (ht _ (by omega))
  obtain ⟨vs, g1, g2, g3⟩ := zSh_get hB.1 he
  refine w_me (n := 1) hd rfl rfl rfl rfl ?_ (kk _ (hr _ (by omega)) (by omega) h1)
  rw [zvl_eq g1] at h1
  simp only [zmem, zald, g3, zidxI (znat hx0) (by omega : x.toInt.toNat < vs.length), h1, Option.map_some]
end ZBR
/-- what a method comes to: nothing, an int, a long; the box kept, all but R as before -/
def zRV (N : Nat) (R : zRL) (M0 : zM) (P : zM → Prop) (q : zRes) : Prop := ∃ M', q = (none, M') ∧ zJ N R M0 M' ∧ P M'
def zRI (N : Nat) (R : zRL) (M0 : zM) (lo hi : Int) (P : Int32 → zM → Prop) (q : zRes) : Prop := ∃ (v : Int32) (M' : zM), q = (some (.int v), M') ∧ lo ≤ v.toInt ∧ v.toInt ≤ hi ∧ zJ N R M0 M' ∧ P v M'
def zRG (N : Nat) (R : zRL) (M0 : zM) (P : Int64 → zM → Prop) (q : zRes) : Prop := ∃ (v : Int64) (M' : zM), q = (some (.long v), M') ∧ zJ N R M0 M' ∧ P v M'
theorem ZV.le {X : List Int32} {d d' j : Nat} {vs : List Value} {M : zM} {Q : zRes → Prop} (h : ZV X d j vs M Q) (hd : d ≤ d') : ZV X d' j vs M Q := by
  obtain ⟨r, h1, h2⟩ := h
  exact ⟨r, h1.le hd, h2⟩
