/-! PURE CONDITIONS: the cells as numbers (zi), a store (zup), what is as before (zFr); rows that give exact numbers -/
abbrev zF : Type := Nat → Nat → Int
def zi (M : zM) (a k : Nat) : Int := match zvl M a k with
  | some (.int x) => x.toInt
  | some (.long x) => x.toInt
  | some (.ref r) => (r : Int)
  | _ => 0
def zup (s : zF) (a k : Nat) (v : Int) : zF := fun a' k' => if a' = a ∧ k' = k then v else s a' k'
theorem zup_eq {s : zF} {a k : Nat} {v : Int} : zup s a k v a k = v := by
  unfold zup
  rw [if_pos ⟨rfl, rfl⟩]
theorem zup_ne {s : zF} {a k a' k' : Nat} {v : Int} (h : a' ≠ a ∨ k' ≠ k) : zup s a k v a' k' = s a' k' := by
  unfold zup
  rw [if_neg]
  rintro ⟨h1, h2⟩
  exact h.elim (fun z => z h1) (fun z => z h2)
theorem zup_na {s : zF} {a k a' : Nat} {v : Int} (h : a' ≠ a) : zup s a k v a' = s a' := by
  funext k'
  exact zup_ne (Or.inl h)
theorem ziE {M : zM} {a k : Nat} {x : Int32} (f : zvl M a k = some (.int x)) : x.toInt = zi M a k := by
  unfold zi
  rw [f]
theorem ziEk {M : zM} {a k k' : Nat} {x : Int32} (f : zvl M a k = some (.int x)) (h : k = k') : x.toInt = zi M a k' := by
  subst h
  exact ziE f
theorem ziL {M : zM} {a k : Nat} {x : Int64} (f : zvl M a k = some (.long x)) : x.toInt = zi M a k := by
  unfold zi
  rw [f]
theorem ziLk {M : zM} {a k k' : Nat} {x : Int64} (f : zvl M a k = some (.long x)) (h : k = k') : x.toInt = zi M a k' := by
  subst h
  exact ziL f
theorem ziR {M : zM} {a k : Nat} {r : Nat} (f : zvl M a k = some (.ref r)) : (r : Int) = zi M a k := by
  unfold zi
  rw [f]
theorem ziRk {M : zM} {a k k' : Nat} {r : Nat} (f : zvl M a k = some (.ref r)) (h : k = k') : (r : Int) = zi M a k' := by
  subst h
  exact ziR f
theorem zi_vl {M M' : zM} {a k : Nat} (h : zvl M' a k = zvl M a k) : zi M' a k = zi M a k := by
  unfold zi
  rw [h]
theorem zi_upG {M M' : zM} {a k k' : Nat} {v : Int} (hn : ∀ a' k', (a ≠ a' ∨ k ≠ k') → zvl M' a' k' = zvl M a' k') (f : zi M' a k = v) (hk : k = k') : zi M' = zup (zi M) a k' v := by
  subst hk
  funext a' k'
  by_cases h : a' = a ∧ k' = k
  · obtain ⟨rfl, rfl⟩ := h
    rw [zup_eq, f]
  · have h2 : a' ≠ a ∨ k' ≠ k := by
      by_cases z : a' = a
      · exact Or.inr fun y => h ⟨z, y⟩
      · exact Or.inl z
    rw [zup_ne h2]
    exact zi_vl (hn a' k' (h2.imp Ne.symm Ne.symm))
theorem zi_zup {M M' : zM} {a k k' : Nat} {x : Int32} {v : Int} (hn : ∀ a' k', (a ≠ a' ∨ k ≠ k') → zvl M' a' k' = zvl M a' k') (f : zvl M' a k = some (.int x)) (hk : k = k') (hx : x.toInt = v) : zi M' = zup (zi M) a k' v := zi_upG hn ((ziE f).symm.trans hx) hk
theorem zi_zupL {M M' : zM} {a k k' : Nat} {x : Int64} {v : Int} (hn : ∀ a' k', (a ≠ a' ∨ k ≠ k') → zvl M' a' k' = zvl M a' k') (f : zvl M' a k = some (.long x)) (hk : k = k') (hx : x.toInt = v) : zi M' = zup (zi M) a k' v := zi_upG hn ((ziL f).symm.trans hx) hk
theorem zi_zupR {M M' : zM} {a k k' : Nat} {r : Nat} (hn : ∀ a' k', (a ≠ a' ∨ k ≠ k') → zvl M' a' k' = zvl M a' k') (f : zvl M' a k = some (.ref r)) (hk : k = k') : zi M' = zup (zi M) a k' (r : Int) := zi_upG hn (ziR f).symm hk
def zFr (R : zRL) (s s' : zF) : Prop := ∀ a k, ¬ zIR R a k → s' a k = s a k
theorem zi_fr {R : zRL} {M M' : zM} (h : ∀ a k, ¬ zIR R a k → zvl M' a k = zvl M a k) : zFr R (zi M) (zi M') := fun a k n => zi_vl (h a k n)
/-- does no range touch the cell, the slot -/
def zNA (R : zRL) (a : Nat) : Bool := R.all fun p => decide (a < p.1) || decide (p.2.1 ≤ a)
def zNS (R : zRL) (a k : Nat) : Bool := R.all fun p => decide (a < p.1) || decide (p.2.1 ≤ a) || (decide (p.2.2 ≠ 1000) && decide (p.2.2 ≠ k))
theorem zNS_ok {R : zRL} {a k : Nat} (h : zNS R a k = true) : ¬ zIR R a k := by
  rintro ⟨p, hp, h1, h2, h3⟩
  have := List.all_eq_true.mp h p hp
  simp at this
  omega
theorem zNA_ok {R : zRL} {a k : Nat} (h : zNA R a = true) : ¬ zIR R a k := by
  rintro ⟨p, hp, h1, h2, h3⟩
  have := List.all_eq_true.mp h p hp
  simp at this
  omega
theorem zFr.a {R : zRL} {s s' : zF} (h : zFr R s s') {a : Nat} (n : zNA R a = true) : s' a = s a := by
  funext k
  exact h a k (zNA_ok n)
theorem zFr.s {R : zRL} {s s' : zF} (h : zFr R s s') {a k : Nat} (n : zNS R a k = true) : s' a k = s a k := h a k (zNS_ok n)
theorem zFr_refl {R : zRL} {s : zF} : zFr R s s := fun _ _ _ => rfl
theorem zFr.trans {R : zRL} {s s' s'' : zF} (h : zFr R s s') (h' : zFr R s' s'') : zFr R s s'' := fun a k n => (h' a k n).trans (h a k n)
/-- one range list lies within another -/
def zRin (R' R : zRL) : Bool := R'.all fun p => R.any fun q => decide (q.1 ≤ p.1) && decide (p.2.1 ≤ q.2.1) && (decide (q.2.2 = 1000) || decide (q.2.2 = p.2.2))
theorem zFr.mono {R' R : zRL} {s s' : zF} (h : zFr R' s s') (n : zRin R' R = true) : zFr R s s' := by
  intro a k hn
  refine h a k fun z => hn ?_
  obtain ⟨p, hp, h1, h2, h3⟩ := z
  obtain ⟨q, hq, hq2⟩ := List.any_eq_true.mp (List.all_eq_true.mp n p hp)
  simp at hq2
  refine ⟨q, hq, by omega, by omega, ?_⟩
  rcases h3 with h3 | h3 <;> rcases hq2.2 with h4 | h4
  · exact Or.inl h4
  · exact Or.inl (by omega)
  · exact Or.inl h4
  · exact Or.inr (by omega)
theorem zFr_zup {R : zRL} {s s' : zF} (h : zFr R s s') {a k : Nat} {v : Int} (n : zIR R a k) : zFr R s (zup s' a k v) := by
  intro a' k' hn
  rw [zup_ne]
  · exact h a' k' hn
  · by_cases q : a' = a
    · refine Or.inr fun z => hn ?_
      rw [q, z]
      exact n
    · exact Or.inl q
theorem zaai {N : Nat} {M : zM} {x : Int32} {b : Nat} (hB : zB N M) (f : zvl M 78 x.toInt.toNat = some (.ref b)) (h0 : 0 ≤ x.toInt) (h1 : x.toInt < 20) : (b : Int) = 79 + 14 * x.toInt := by
  have ht : ∀ k, k < 20 → zT 78 k = (2, ((79 + 14 * k : Nat) : Int), 0) := by decide +kernel
  have h2 := zB_ref hB (show zS0[78]? = some (13, 20) from rfl) (k := x.toInt.toNat) (by omega) (ht _ (by omega))
  rw [f] at h2
  cases h2
  omega
section ZXR
variable {X : List Int32} {d own : Nat} {ini : Bool} {ret : Option FieldType} {cc : ByteArray} {Q : zRes → Prop} {pc n : Nat} {i : Instr} {ml ml' : zML} {st st' : List Value} {M M' : zM} {x y c : Int32}
theorem w_remE (hd : decode cc pc = .ok (.irem, 1)) (hx : 0 ≤ x.toInt) (hy : 0 < y.toInt) (k : ∀ z : Int32, 0 ≤ z.toInt → z.toInt < y.toInt → z.toInt = x.toInt % y.toInt → ZW X d own ini ret cc Q (pc + 1, ml, .int z :: st, M)) : ZW X d own ini ret cc Q (pc, ml, .int y :: .int x :: st, M) := by
  have hy0 : y ≠ 0 := fun z => by rw [z] at hy; exact absurd hy (by decide)
  have hyr : zpure .irem (.int y :: .int x :: st) = some (1, .int (x - x / y * y) :: st) := by
    simp only [zpure]
    rw [if_neg hy0]
  refine w_pu hd rfl hyr ?_
  have h3 := ztop x
  have h4 := ztop y
  have hdv : (x / y).toInt = x.toInt / y.toInt := by
    rw [Int32.toInt_div, Int.tdiv_eq_ediv_of_nonneg hx, Int.bmod_eq_of_le]
    · have := Int.ediv_nonneg hx (Int.le_of_lt hy); omega
    · have := Int.ediv_le_self y.toInt hx; omega
  have hq0 : 0 ≤ x.toInt / y.toInt := Int.ediv_nonneg hx (Int.le_of_lt hy)
  have hq1 : x.toInt / y.toInt * y.toInt ≤ x.toInt := Int.ediv_mul_le _ (Int.ne_of_gt hy)
  have hq2 : 0 ≤ x.toInt / y.toInt * y.toInt := Int.mul_nonneg hq0 (Int.le_of_lt hy)
  have hml : (x / y * y).toInt = x.toInt / y.toInt * y.toInt := by
    rw [zmul_i (by rw [hdv]; omega) (by rw [hdv]; omega), hdv]
  have hsb : (x - x / y * y).toInt = x.toInt % y.toInt := by
    rw [zsub_i (by rw [hml]; omega) (by rw [hml]; omega), hml, Int.emod_def, Int.mul_comm]
  exact k _ (by rw [hsb]; exact Int.emod_nonneg _ (by omega)) (by rw [hsb]; exact Int.emod_lt_of_pos _ hy) hsb
theorem w_mulN (hd : decode cc pc = .ok (.imul, 1)) (h : -2147483648 ≤ x.toInt * y.toInt ∧ x.toInt * y.toInt < 2147483648) (k : ∀ z : Int32, z.toInt = x.toInt * y.toInt → ZW X d own ini ret cc Q (pc + 1, ml, .int z :: st, M)) : ZW X d own ini ret cc Q (pc, ml, .int y :: .int x :: st, M) := w_pu hd rfl rfl (k _ (zmul_i h.1 h.2))
theorem zlsh8 {x : Int64} (h0 : 0 ≤ x.toInt) (h1 : x.toInt < 36028797018963968) : (x <<< (8 : Int64)).toInt = 256 * x.toInt := by
  have e1 : (x <<< (8 : Int64)).toBitVec = x.toBitVec <<< 8 := by
    rw [Int64.toBitVec_shiftLeft]
    rfl
  have e2 : x.toInt = x.toBitVec.toInt := rfl
  have e3 : (x <<< (8 : Int64)).toInt = (x <<< (8 : Int64)).toBitVec.toInt := rfl
  have hx := x.toBitVec.isLt
  have e4 : x.toBitVec.toInt = (x.toBitVec.toNat : Int) := by
    rw [BitVec.toInt_eq_toNat_cond]
    rw [e2, BitVec.toInt_eq_toNat_cond] at h0
    split at h0
    · rename_i h; rw [if_pos h]
    · omega
  have hn : x.toBitVec.toNat < 36028797018963968 := by omega
  rw [e3, e1, e2, e4, BitVec.toInt_eq_toNat_cond, BitVec.toNat_shiftLeft, Nat.shiftLeft_eq]
  have e5 : x.toBitVec.toNat * 2 ^ 8 % 2 ^ 64 = x.toBitVec.toNat * 256 := Nat.mod_eq_of_lt (by omega)
  rw [e5, if_pos (by omega)]
  omega
theorem zlor8 {x y : Int64} (h0 : 0 ≤ x.toInt) (h1 : x.toInt % 256 = 0) (h2 : 0 ≤ y.toInt) (h3 : y.toInt < 256) : (x ||| y).toInt = x.toInt + y.toInt := by
  have e1 : x.toInt = x.toBitVec.toInt := rfl
  have e2 : y.toInt = y.toBitVec.toInt := rfl
  have e3 : (x ||| y).toInt = (x ||| y).toBitVec.toInt := rfl
  have hx := x.toBitVec.isLt
  have hy := y.toBitVec.isLt
  have n1 : x.toBitVec.toInt = (x.toBitVec.toNat : Int) ∧ 2 * x.toBitVec.toNat < 18446744073709551616 := by
    rw [e1, BitVec.toInt_eq_toNat_cond] at h0
    rw [BitVec.toInt_eq_toNat_cond]
    split at h0
    · rename_i h; rw [if_pos h]; exact ⟨rfl, h⟩
    · omega
  have n2 : y.toBitVec.toInt = (y.toBitVec.toNat : Int) := by
    rw [e2, BitVec.toInt_eq_toNat_cond] at h2
    rw [BitVec.toInt_eq_toNat_cond]
    split at h2
    · rename_i h; rw [if_pos h]
    · omega
  have hm : x.toBitVec.toNat % 256 = 0 := by omega
  have hy2 : y.toBitVec.toNat < 2 ^ 8 := by omega
  obtain ⟨q, hq⟩ : ∃ q, x.toBitVec.toNat = q * 2 ^ 8 := ⟨x.toBitVec.toNat / 256, by omega⟩
  have e5 : (x ||| y).toBitVec.toNat = x.toBitVec.toNat + y.toBitVec.toNat := by
    rw [Int64.toBitVec_or, BitVec.toNat_or, hq, ← Nat.shiftLeft_eq, ← Nat.shiftLeft_add_eq_or_of_lt hy2]
  rw [e3, BitVec.toInt_eq_toNat_cond, e5, if_pos (by omega), e1, e2, n1.1, n2]
  omega
theorem w_lsh8 {x : Int64} {y : Int32} (hd : decode cc pc = .ok (.lshl, 1)) (hy : y = 8) (h0 : 0 ≤ x.toInt) (h1 : x.toInt < 36028797018963968) (k : ∀ z : Int64, z.toInt = 256 * x.toInt → ZW X d own ini ret cc Q (pc + 1, ml, .long z :: st, M)) : ZW X d own ini ret cc Q (pc, ml, .int y :: .long x :: st, M) := by
  subst hy
  refine w_pu (st' := .long (x <<< (8 : Int64)) :: st) hd rfl ?_ (k _ (zlsh8 h0 h1))
  have e : ((8 : Int32).toInt64 &&& 63) = 8 := by decide
  simp only [zpure, e]
theorem w_lor8 {x y : Int64} (hd : decode cc pc = .ok (.lor, 1)) (h0 : 0 ≤ x.toInt) (h1 : x.toInt % 256 = 0) (h2 : 0 ≤ y.toInt) (h3 : y.toInt < 256) (k : ∀ z : Int64, z.toInt = x.toInt + y.toInt → ZW X d own ini ret cc Q (pc + 1, ml, .long z :: st, M)) : ZW X d own ini ret cc Q (pc, ml, .long y :: .long x :: st, M) := w_pu hd rfl rfl (k _ (zlor8 h0 h1 h2 h3))
end ZXR
