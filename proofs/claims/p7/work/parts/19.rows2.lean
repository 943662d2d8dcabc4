/-! rows of the small machine for runs over unknown numbers: by the kind of the instruction -/
section ZXK
variable {X : List Int32} {d own : Nat} {ini : Bool} {ret : Option FieldType} {cc : ByteArray} {r : zRes} {pc n : Nat} {i : Instr} {ml ml' : zML} {st st' : List Value} {M M' : zM}
theorem ZX.pu (hd : decode cc pc = .ok (i, n)) (h1 : zret ret i st = none) (h : zpure i st = some (n, st')) (k : ZX X d own ini ret cc (pc + n, ml, st', M) r) : ZX X d own ini ret cc (pc, ml, st, M) r := by
  refine ZX.step ?_ k
  unfold zstep
  simp only [hd, h1, h]
  rw [if_pos trivial]
theorem ZX.br {pc' : Nat} (hd : decode cc pc = .ok (i, n)) (h1 : zret ret i st = none) (h2 : zpure i st = none) (h : zbr i pc n st = some (pc', st')) (k : ZX X d own ini ret cc (pc', ml, st', M) r) : ZX X d own ini ret cc (pc, ml, st, M) r := by
  refine ZX.step ?_ k
  unfold zstep
  simp only [hd, h1, h2, h]
theorem ZX.lo (hd : decode cc pc = .ok (i, n)) (h1 : zret ret i st = none) (h2 : zpure i st = none) (h3 : zbr i pc n st = none) (h : zloc i ml st = some (n, ml', st')) (k : ZX X d own ini ret cc (pc + n, ml', st', M) r) : ZX X d own ini ret cc (pc, ml, st, M) r := by
  refine ZX.step ?_ k
  unfold zstep
  simp only [hd, h1, h2, h3, h]
  rw [if_pos trivial]
theorem ZX.me (hd : decode cc pc = .ok (i, n)) (h1 : zret ret i st = none) (h2 : zpure i st = none) (h3 : zbr i pc n st = none) (h4 : zloc i ml st = none) (h : zmem own ini X i st M = some (n, st', M')) (k : ZX X d own ini ret cc (pc + n, ml, st', M') r) : ZX X d own ini ret cc (pc, ml, st, M) r := by
  refine ZX.step ?_ k
  unfold zstep
  simp only [hd, h1, h2, h3, h4, h]
  rw [if_pos trivial]
theorem ZX.ca {j : Nat} {vs : List Value} {r1 : zRes} (hc : ZC X d j vs M r1) (hd : decode cc pc = .ok (i, 3)) (h1 : zret ret i st = none) (h2 : zpure i st = none) (h3 : zbr i pc 3 st = none) (h4 : zloc i ml st = none) (h5 : zmem own ini X i st M = none) (h : zinv own (fun j' vs' _ => if j' = j ∧ vs' = vs then some r1 else none) i st M = some (st', M')) (k : ZX X d own ini ret cc (pc + 3, ml, st', M') r) : ZX X d own ini ret cc (pc, ml, st, M) r := by
  refine ZX.call hc (st' := (pc + 3, ml, st', M')) ?_ k
  unfold zstep
  simp only [hd, h1, h2, h3, h4, h5, h]
  rw [if_pos trivial]
theorem ZX.en {v : Option Value} (hd : decode cc pc = .ok (i, 1)) (h1 : zret ret i st = some v) : ZX X d own ini ret cc (pc, ml, st, M) (v, M) := by
  refine ZX.fin ?_
  unfold zstep
  simp only [hd, h1]
  rw [if_pos trivial]
/-- getfield -/
theorem ZX.gf {idx ci k a : Nat} {vs s' : List Value} {v : Value} (hd : decode cc pc = .ok (.getfield idx, 3)) (hf : zfld own idx = some (ci, k)) (ha : zarr M a ci = some vs) (hv : vs[k]? = some v) (kk : ZX X d own ini ret cc (pc + 3, ml, v :: s', M) r) : ZX X d own ini ret cc (pc, ml, .ref a :: s', M) r := by
  refine ZX.me hd rfl rfl rfl rfl ?_ kk
  simp only [zmem, hf, ha, hv, Option.map_some]
/-- putfield -/
theorem ZX.pf {idx ci k a : Nat} {vs s' : List Value} {v : Value} (hd : decode cc pc = .ok (.putfield idx, 3)) (hf : zfld own idx = some (ci, k)) (ha : zarr M a ci = some vs) (hq : k < vs.length ∧ narrow (zty ci k) v = v ∧ fits (zty ci k) v = true ∧ ((ztb ci k).2.2.2 = true → ini = true ∧ own = ci)) (kk : ZX X d own ini ret cc (pc + 3, ml, s', M.set a (ci, vs.set k v)) r) : ZX X d own ini ret cc (pc, ml, v :: .ref a :: s', M) r := by
  refine ZX.me hd ?_ ?_ ?_ ?_ ?_ kk
  · cases s' <;> rfl
  · cases v <;> rfl
  · cases v <;> rfl
  · cases v <;> rfl
  · simp only [zmem, hf, ha]
    rw [if_pos hq]
/-- iaload, laload, baload, aaload -/
theorem ZX.ia {a : Nat} {x : Int32} {k : Nat} {vs s' : List Value} {v : Value} (hd : decode cc pc = .ok (.iaload, 1)) (hb : a ≠ zBig) (ha : zarr M a 10 = some vs) (hk : zidx vs x = some k) (hv : vs[k]? = some v) (kk : ZX X d own ini ret cc (pc + 1, ml, v :: s', M) r) : ZX X d own ini ret cc (pc, ml, .int x :: .ref a :: s', M) r := by
  refine ZX.me hd rfl rfl rfl rfl ?_ kk
  simp only [zmem, zald, ha, hk, hv, Option.map_some]
  rw [if_neg hb]
/-- iastore -/
theorem ZX.is {a : Nat} {x y : Int32} {k : Nat} {vs s' : List Value} (hd : decode cc pc = .ok (.iastore, 1)) (ha : zarr M a 10 = some vs) (hk : zidx vs x = some k) (kk : ZX X d own ini ret cc (pc + 1, ml, s', M.set a (10, vs.set k (.int y))) r) : ZX X d own ini ret cc (pc, ml, .int y :: .int x :: .ref a :: s', M) r := by
  refine ZX.me hd rfl rfl rfl rfl ?_ kk
  simp only [zmem, zast, ha, hk, Option.map_some]
/-- the law's own reading of the script -/
theorem ZX.sl {x : Int32} {s' : List Value} (hd : decode cc pc = .ok (.arraylength, 1)) (ho : own = 10) (kk : ZX X d own ini ret cc (pc + 1, ml, .int (nI X.length) :: s', M) r) : ZX X d own ini ret cc (pc, ml, .ref zBig :: s', M) r := by
  refine ZX.me hd rfl rfl rfl rfl ?_ kk
  simp only [zmem]
  rw [if_pos trivial, if_pos ho]
theorem ZX.sr {x : Int32} {s' : List Value} (hd : decode cc pc = .ok (.iaload, 1)) (ho : own = 10) (hx : ¬ (x < 0 ∨ X.length ≤ x.toNatClampNeg)) (kk : ZX X d own ini ret cc (pc + 1, ml, .int (X.getD x.toNatClampNeg 0) :: s', M) r) : ZX X d own ini ret cc (pc, ml, .int x :: .ref zBig :: s', M) r := by
  refine ZX.me hd rfl rfl rfl rfl ?_ kk
  simp only [zmem]
  rw [if_pos trivial, if_neg (fun q => q.elim (fun z => z ho) hx)]
/-- invokevirtual of a method of one's own -/
theorem ZX.iv {idx j ci na a : Nat} {y : MethodName} {c2 : ByteArray} {ml2 pos : Nat} {ret2 : Option FieldType} {vs As s' : List Value} {r1 : zRes} (hd : decode cc pc = .ok (.invokevirtual idx, 3)) (hcl : zcall own idx = some (0, j)) (hz : zmt j = some (ci, na, y, c2, ml2, ret2, pos)) (hst : st = As.reverse ++ .ref a :: s') (hn : As.length = na) (ha : zarr M a ci = some vs) (hcat : zcat s' ≤ 8) (hc : ZC X d j (.ref a :: As) M r1) (kk : ZX X d own ini ret cc (pc + 3, ml, r1.1.toList ++ s', r1.2) r) : ZX X d own ini ret cc (pc, ml, st, M) r := by
  have e1 : st.drop na = .ref a :: s' := by
    rw [hst, ← hn, ← List.length_reverse, List.drop_left]
  have e2 : (st.take na).reverse = As := by
    rw [hst, ← hn, ← List.length_reverse, List.take_left, List.reverse_reverse]
  have e3 : na ≤ st.length := by
    rw [hst, ← hn]
    simp
  refine ZX.ca hc hd ?_ ?_ ?_ ?_ ?_ ?_ kk
  · cases st <;> rfl
  · cases st <;> rfl
  · cases st <;> rfl
  · cases st <;> rfl
  · cases st <;> rfl
  · simp only [zinv, hcl, hz, e1, ha]
    rw [if_pos ⟨e3, hcat⟩, e2, if_pos (by simp)]
    rfl
end ZXK
