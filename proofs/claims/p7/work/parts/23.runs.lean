/-! RUNS WITH A POSTCONDITION (ZW), calls with one (ZV); cells by their slots (zvl), the cells' shape (zSh), what was written since the law's beginning (zU). Rows of ZW. -/
def ZW (X : List Int32) (d own : Nat) (ini : Bool) (ret : Option FieldType) (cc : ByteArray) (Q : zRes → Prop) (st : zS) : Prop := ∃ r, ZX X d own ini ret cc st r ∧ Q r
def ZV (X : List Int32) (d j : Nat) (vs : List Value) (M : zM) (Q : zRes → Prop) : Prop := ∃ r, ZC X d j vs M r ∧ Q r
def zvl (M : zM) (a k : Nat) : Option Value := (M[a]?).bind fun c => c.2[k]?
def zput (M : zM) (a k : Nat) (v : Value) : zM := match M[a]? with
  | some c => M.set a (c.1, c.2.set k v)
  | none => M
abbrev zshp (M : zM) : List (Nat × Nat) := M.map fun c => (c.1, c.2.length)
def zS0 : List (Nat × Nat) := [(8, 16), (10, 1600), (5, 11), (10, 27), (10, 1601), (10, 1601), (10, 1601), (1, 16), (10, 12), (10, 12), (10, 12), (10, 12), (10, 12), (10, 12), (10, 6), (10, 6), (10, 6), (10, 6), (10, 6), (10, 11), (2, 9), (10, 1600), (12, 8), (10, 8), (10, 8), (10, 8), (10, 64), (10, 7), (1, 16), (10, 12), (10, 12), (10, 12), (10, 12), (10, 12), (10, 12), (10, 6), (10, 6), (10, 6), (10, 6), (10, 6), (10, 11), (2, 9), (10, 1600), (12, 8), (10, 8), (10, 8), (10, 8), (10, 64), (10, 7), (6, 16), (10, 12), (12, 12), (10, 12), (10, 12), (10, 12), (10, 12), (10, 12), (10, 12), (10, 12), (10, 12), (12, 11), (10, 11), (10, 200), (6, 16), (10, 12), (12, 12), (10, 12), (10, 12), (10, 12), (10, 12), (10, 12), (10, 12), (10, 12), (10, 12), (12, 11), (10, 11), (10, 200), (0, 3), (13, 20), (6, 16), (10, 12), (12, 12), (10, 12), (10, 12), (10, 12), (10, 12), (10, 12), (10, 12), (10, 12), (10, 12), (12, 11), (10, 11), (10, 200), (6, 16), (10, 12), (12, 12), (10, 12), (10, 12), (10, 12), (10, 12), (10, 12), (10, 12), (10, 12), (10, 12), (12, 11), (10, 11), (10, 200), (6, 16), (10, 12), (12, 12), (10, 12), (10, 12), (10, 12), (10, 12), (10, 12), (10, 12), (10, 12), (10, 12), (12, 11), (10, 11), (10, 200), (6, 16), (10, 12), (12, 12), (10, 12), (10, 12), (10, 12), (10, 12), (10, 12), (10, 12), (10, 12), (10, 12), (12, 11), (10, 11), (10, 200), (6, 16), (10, 12), (12, 12), (10, 12), (10, 12), (10, 12), (10, 12), (10, 12), (10, 12), (10, 12), (10, 12), (12, 11), (10, 11), (10, 200), (6, 16), (10, 12), (12, 12), (10, 12), (10, 12), (10, 12), (10, 12), (10, 12), (10, 12), (10, 12), (10, 12), (12, 11), (10, 11), (10, 200), (6, 16), (10, 12), (12, 12), (10, 12), (10, 12), (10, 12), (10, 12), (10, 12), (10, 12), (10, 12), (10, 12), (12, 11), (10, 11), (10, 200), (6, 16), (10, 12), (12, 12), (10, 12), (10, 12), (10, 12), (10, 12), (10, 12), (10, 12), (10, 12), (10, 12), (12, 11), (10, 11), (10, 200), (6, 16), (10, 12), (12, 12), (10, 12), (10, 12), (10, 12), (10, 12), (10, 12), (10, 12), (10, 12), (10, 12), (12, 11), (10, 11), (10, 200), (6, 16), (10, 12), (12, 12), (10, 12), (10, 12), (10, 12), (10, 12), (10, 12), (10, 12), (10, 12), (10, 12), (12, 11), (10, 11), (10, 200), (6, 16), (10, 12), (12, 12), (10, 12), (10, 12), (10, 12), (10, 12), (10, 12), (10, 12), (10, 12), (10, 12), (12, 11), (10, 11), (10, 200), (6, 16), (10, 12), (12, 12), (10, 12), (10, 12), (10, 12), (10, 12), (10, 12), (10, 12), (10, 12), (10, 12), (12, 11), (10, 11), (10, 200), (6, 16), (10, 12), (12, 12), (10, 12), (10, 12), (10, 12), (10, 12), (10, 12), (10, 12), (10, 12), (10, 12), (12, 11), (10, 11), (10, 200), (6, 16), (10, 12), (12, 12), (10, 12), (10, 12), (10, 12), (10, 12), (10, 12), (10, 12), (10, 12), (10, 12), (12, 11), (10, 11), (10, 200), (6, 16), (10, 12), (12, 12), (10, 12), (10, 12), (10, 12), (10, 12), (10, 12), (10, 12), (10, 12), (10, 12), (12, 11), (10, 11), (10, 200), (6, 16), (10, 12), (12, 12), (10, 12), (10, 12), (10, 12), (10, 12), (10, 12), (10, 12), (10, 12), (10, 12), (12, 11), (10, 11), (10, 200), (6, 16), (10, 12), (12, 12), (10, 12), (10, 12), (10, 12), (10, 12), (10, 12), (10, 12), (10, 12), (10, 12), (12, 11), (10, 11), (10, 200), (6, 16), (10, 12), (12, 12), (10, 12), (10, 12), (10, 12), (10, 12), (10, 12), (10, 12), (10, 12), (10, 12), (12, 11), (10, 11), (10, 200), (6, 16), (10, 12), (12, 12), (10, 12), (10, 12), (10, 12), (10, 12), (10, 12), (10, 12), (10, 12), (10, 12), (12, 11), (10, 11), (10, 200), (6, 16), (10, 12), (12, 12), (10, 12), (10, 12), (10, 12), (10, 12), (10, 12), (10, 12), (10, 12), (10, 12), (12, 11), (10, 11), (10, 200), (3, 2), (7, 2), (10, 12), (7, 2), (10, 12), (4, 12), (10, 12), (10, 12), (6, 16), (10, 12), (12, 12), (10, 12), (10, 12), (10, 12), (10, 12), (10, 12), (10, 12), (10, 12), (10, 12), (12, 11), (10, 11), (10, 200), (7, 2), (10, 12), (10, 12), (10, 109), (10, 6), (9, 82), (10, 1800), (10, 2), (11, 24), (10, 24), (10, 24), (10, 24), (10, 24), (10, 24), (10, 22), (10, 2), (11, 12), (10, 12), (10, 12), (10, 12), (10, 12), (10, 2), (10, 16), (10, 16), (10, 16), (10, 16), (10, 3200), (10, 3200), (10, 20), (10, 20), (12, 20), (10, 20), (10, 20), (10, 500), (10, 6), (11, 1650), (10, 10), (10, 22), (10, 264), (10, 264), (10, 264), (10, 264), (10, 264), (10, 264), (10, 264), (10, 264), (10, 264), (10, 264), (10, 242), (10, 242), (10, 22), (10, 22000), (10, 12), (10, 12), (10, 12), (10, 12), (10, 4), (10, 4), (10, 120)]
def zSh (M : zM) : Prop := zshp M = zS0
theorem zSh_get {M : zM} (h : zSh M) {a kind n : Nat} (e : zS0[a]? = some (kind, n)) : ∃ vs, M[a]? = some (kind, vs) ∧ vs.length = n ∧ zarr M a kind = some vs := by
  unfold zSh at h
  rw [← h, List.getElem?_map, Option.map_eq_some_iff] at e
  obtain ⟨c, h1, h2⟩ := e
  obtain ⟨c1, c2⟩ := c
  cases h2
  refine ⟨c2, h1, rfl, ?_⟩
  unfold zarr
  rw [h1]
  simp
theorem zput_eq {M : zM} {a k kind : Nat} {vs : List Value} {v : Value} (h : M[a]? = some (kind, vs)) : zput M a k v = M.set a (kind, vs.set k v) := by
  unfold zput
  rw [h]
theorem zSh_set {M : zM} (h : zSh M) {a kind : Nat} {vs ws : List Value} (e : M[a]? = some (kind, vs)) (hl : ws.length = vs.length) : zSh (M.set a (kind, ws)) := by
  unfold zSh at h ⊢
  rw [← h]
  unfold zshp
  rw [List.map_set]
  refine List.ext_getElem? fun i => ?_
  rw [List.getElem?_set]
  split
  · rename_i q
    subst q
    rw [List.getElem?_map, e]
    have : a < (M.map fun c => (c.1, c.2.length)).length := by
      rw [List.length_map]
      exact (List.getElem?_eq_some_iff.mp e).1
    rw [if_pos this]
    simp [hl]
  · rfl
theorem zSh_put {M : zM} (h : zSh M) {a k kind n : Nat} {v : Value} (e : zS0[a]? = some (kind, n)) : zSh (zput M a k v) := by
  obtain ⟨vs, h1, -, -⟩ := zSh_get h e
  rw [zput_eq h1]
  exact zSh_set h h1 (by simp)
theorem zvl_eq {M : zM} {a k kind : Nat} {vs : List Value} (h : M[a]? = some (kind, vs)) : zvl M a k = vs[k]? := by
  unfold zvl
  rw [h]
  rfl
theorem zvl_put {M : zM} (h : zSh M) {a k kind n : Nat} {v : Value} (e : zS0[a]? = some (kind, n)) (hk : k < n) : zvl (zput M a k v) a k = some v := by
  obtain ⟨vs, h1, h2, -⟩ := zSh_get h e
  have hlt : a < M.length := (List.getElem?_eq_some_iff.mp h1).1
  rw [zput_eq h1, zvl_eq (kind := kind) (vs := vs.set k v) (by rw [List.getElem?_set_self hlt]), List.getElem?_set_self (by omega)]
theorem zvl_ne {M : zM} {a k a' k' : Nat} {v : Value} (hne : a ≠ a' ∨ k ≠ k') : zvl (zput M a k v) a' k' = zvl M a' k' := by
  unfold zput
  split
  · rename_i c hc
    unfold zvl
    rw [List.getElem?_set]
    split
    · rename_i q
      subst q
      have hlt : a < M.length := (List.getElem?_eq_some_iff.mp hc).1
      rw [if_pos hlt, hc]
      simp only [Option.bind_some]
      rw [List.getElem?_set]
      split
      · rename_i q2
        exact absurd q2 (hne.resolve_left (fun z => z rfl))
      · rfl
    · rfl
  · rfl
theorem zSh_len {M : zM} (h : zSh M) : M.length = 440 := by
  have := congrArg List.length h
  rw [List.length_map] at this
  rw [this]
  decide +kernel
theorem zSh_sl {M : zM} (h : zSh M) : zsl M = 54791 := by
  have e : zsl M = ((zshp M).map (·.2)).sum := by
    unfold zsl zshp
    rw [List.map_map]
    rfl
  rw [e, h]
  decide +kernel
set_option maxRecDepth 1000000 in
theorem zSh_0 : zSh zM0 := by
  unfold zSh
  decide +kernel
/-- what lies apart from the slots W is as at the beginning -/
def zoff (W : List (Nat × Nat)) (a k : Nat) : Bool := W.all fun p => !(p.1 == a && p.2 == k)
def zU (W : List (Nat × Nat)) (M : zM) : Prop := zSh M ∧ ∀ a k, zoff W a k = true → zvl M a k = zvl zM0 a k
theorem zU_0 : zU [] zM0 := ⟨zSh_0, fun _ _ _ => rfl⟩
theorem zU_put {W : List (Nat × Nat)} {M : zM} (h : zU W M) {a k kind n : Nat} {v : Value} (e : zS0[a]? = some (kind, n)) : zU ((a, k) :: W) (zput M a k v) := by
  refine ⟨zSh_put h.1 e, fun a' k' hq => ?_⟩
  unfold zoff at hq
  rw [List.all_cons, Bool.and_eq_true] at hq
  rw [zvl_ne ?_, h.2 a' k' hq.2]
  have := hq.1
  by_cases q : a = a'
  · refine Or.inr fun z => ?_
    subst q z
    simp at this
  · exact Or.inl q
theorem zpt {x c : Int32} {n : Int} (hc : c.toInt = n) (h : x.toInt = n) : x = c := Int32.toInt_inj.mp (h.trans hc.symm)
theorem zclampI {x : Int32} {k : Nat} (h : x.toInt = (k : Int)) : x.toNatClampNeg = k ∧ ¬ x < 0 := by
  constructor
  · rw [← Int32.toNat_toInt, h]
    rfl
  · rw [Int32.lt_iff_toInt_lt, h]
    show ¬ ((k : Int) < 0)
    omega
theorem zidxI {vs : List Value} {x : Int32} {k : Nat} (h : x.toInt = (k : Int)) (hk : k < vs.length) : zidx vs x = some k := by
  obtain ⟨h1, h2⟩ := zclampI h
  unfold zidx
  rw [if_neg, h1]
  rw [h1]
  rintro (q | q)
  · exact h2 q
  · omega
section ZWR
variable {X : List Int32} {d own : Nat} {ini : Bool} {ret : Option FieldType} {cc : ByteArray} {Q : zRes → Prop} {pc n : Nat} {i : Instr} {ml ml' : zML} {st st' : List Value} {M M' : zM} {x y c : Int32} {off : Int} {t : Nat} {W : List (Nat × Nat)}
theorem ZW.of {s s' : zS} (h : ∀ r, ZX X d own ini ret cc s' r → ZX X d own ini ret cc s r) (k : ZW X d own ini ret cc Q s') : ZW X d own ini ret cc Q s := by
  obtain ⟨r, h1, h2⟩ := k
  exact ⟨r, h r h1, h2⟩
theorem ZV.of {j ci na ml pos : Nat} {y : MethodName} {vs : List Value} {M : zM} (hz : zmt j = some (ci, na, y, cc, ml, ret, pos)) (hl : (zargs vs).length ≤ ml) (hi : decide (y.name = "<init>") = ini) (k : ZW X d ci ini ret cc Q (0, zent vs ml, [], M)) : ZV X (d + 1) j vs M Q := by
  obtain ⟨r, h1, h2⟩ := k
  exact ⟨r, ZC.of hz hl (by rw [hi]; exact h1), h2⟩
theorem ZV.imp {j : Nat} {vs : List Value} {Q' : zRes → Prop} (h : ZV X d j vs M Q) (k : ∀ r, Q r → Q' r) : ZV X d j vs M Q' := by
  obtain ⟨r, h1, h2⟩ := h
  exact ⟨r, h1, k r h2⟩
theorem w_pu (hd : decode cc pc = .ok (i, n)) (h1 : zret ret i st = none) (h : zpure i st = some (n, st')) (k : ZW X d own ini ret cc Q (pc + n, ml, st', M)) : ZW X d own ini ret cc Q (pc, ml, st, M) := ZW.of (fun _ z => ZX.pu hd h1 h z) k
theorem w_ic {m : Int} (hd : decode cc pc = .ok (.iconst m, 1)) (hc : Int32.ofInt m = c) (k : ZW X d own ini ret cc Q (pc + 1, ml, .int c :: st, M)) : ZW X d own ini ret cc Q (pc, ml, st, M) := by
  subst hc
  exact ZW.of (fun _ z => ZX.pu hd (by cases st <;> rfl) rfl z) k
theorem w_bi {m : Int} (hd : decode cc pc = .ok (.bipush m, 2)) (hc : (Int8.ofInt m).toInt32 = c) (k : ZW X d own ini ret cc Q (pc + 2, ml, .int c :: st, M)) : ZW X d own ini ret cc Q (pc, ml, st, M) := by
  subst hc
  exact ZW.of (fun _ z => ZX.pu hd (by cases st <;> rfl) rfl z) k
theorem w_si {m : Int} (hd : decode cc pc = .ok (.sipush m, 3)) (hc : (Int16.ofInt m).toInt32 = c) (k : ZW X d own ini ret cc Q (pc + 3, ml, .int c :: st, M)) : ZW X d own ini ret cc Q (pc, ml, st, M) := by
  subst hc
  exact ZW.of (fun _ z => ZX.pu hd (by cases st <;> rfl) rfl z) k
theorem w_br {pc' : Nat} (hd : decode cc pc = .ok (i, n)) (h1 : zret ret i st = none) (h2 : zpure i st = none) (h : zbr i pc n st = some (pc', st')) (k : ZW X d own ini ret cc Q (pc', ml, st', M)) : ZW X d own ini ret cc Q (pc, ml, st, M) := ZW.of (fun _ z => ZX.br hd h1 h2 h z) k
theorem w_lo (hd : decode cc pc = .ok (i, n)) (h1 : zret ret i st = none) (h2 : zpure i st = none) (h3 : zbr i pc n st = none) (h : zloc i ml st = some (n, ml', st')) (k : ZW X d own ini ret cc Q (pc + n, ml', st', M)) : ZW X d own ini ret cc Q (pc, ml, st, M) := ZW.of (fun _ z => ZX.lo hd h1 h2 h3 h z) k
theorem w_me (hd : decode cc pc = .ok (i, n)) (h1 : zret ret i st = none) (h2 : zpure i st = none) (h3 : zbr i pc n st = none) (h4 : zloc i ml st = none) (h : zmem own ini X i st M = some (n, st', M')) (k : ZW X d own ini ret cc Q (pc + n, ml, st', M')) : ZW X d own ini ret cc Q (pc, ml, st, M) := ZW.of (fun _ z => ZX.me hd h1 h2 h3 h4 h z) k
/-- the end of a method -/
theorem w_en {v : Option Value} (hd : decode cc pc = .ok (i, 1)) (h1 : zret ret i st = some v) (k : Q (v, M)) : ZW X d own ini ret cc Q (pc, ml, st, M) := ⟨(v, M), ZX.en hd h1, k⟩
theorem w_gt (hd : decode cc pc = .ok (.goto off, 3)) (ht : ztgt pc off = some t) (k : ZW X d own ini ret cc Q (t, ml, st, M)) : ZW X d own ini ret cc Q (pc, ml, st, M) := by
  refine w_br hd ?_ ?_ ?_ k
  · cases st <;> rfl
  · cases st <;> rfl
  · simp only [zbr, ht, if_true, Option.map_some]
theorem w_ieq_t (hd : decode cc pc = .ok (.ifCond .eq off, 3)) (ht : ztgt pc off = some t) (h : x.toInt = 0) (k : ZW X d own ini ret cc Q (t, ml, st, M)) : ZW X d own ini ret cc Q (pc, ml, .int x :: st, M) := by
  refine w_br hd rfl rfl ?_ k
  simp only [zbr, ht, if_true]
  rw [if_pos (zpt (c := 0) rfl h)]
theorem w_ieq_f (hd : decode cc pc = .ok (.ifCond .eq off, 3)) (ht : ztgt pc off = some t) (h : x.toInt ≠ 0) (k : ZW X d own ini ret cc Q (pc + 3, ml, st, M)) : ZW X d own ini ret cc Q (pc, ml, .int x :: st, M) := by
  refine w_br hd rfl rfl ?_ k
  simp only [zbr, ht, if_true]
  rw [if_neg (fun z => h (by rw [z]; rfl))]
theorem w_ceq_t (hd : decode cc pc = .ok (.if_icmp .eq off, 3)) (ht : ztgt pc off = some t) (h : x.toInt = y.toInt) (k : ZW X d own ini ret cc Q (t, ml, st, M)) : ZW X d own ini ret cc Q (pc, ml, .int y :: .int x :: st, M) := by
  refine w_br hd rfl rfl ?_ k
  simp only [zbr, ht, if_true]
  rw [if_pos (Int32.toInt_inj.mp h)]
theorem w_ceq_f (hd : decode cc pc = .ok (.if_icmp .eq off, 3)) (ht : ztgt pc off = some t) (h : x.toInt ≠ y.toInt) (k : ZW X d own ini ret cc Q (pc + 3, ml, st, M)) : ZW X d own ini ret cc Q (pc, ml, .int y :: .int x :: st, M) := by
  refine w_br hd rfl rfl ?_ k
  simp only [zbr, ht, if_true]
  rw [if_neg (fun z => h (by rw [z]))]
theorem w_ine_t (hd : decode cc pc = .ok (.ifCond .ne off, 3)) (ht : ztgt pc off = some t) (h : x.toInt ≠ 0) (k : ZW X d own ini ret cc Q (t, ml, st, M)) : ZW X d own ini ret cc Q (pc, ml, .int x :: st, M) := by
  refine w_br hd rfl rfl ?_ k
  simp only [zbr, ht, if_true]
  rw [if_neg (fun z => h (by rw [z]; rfl))]
theorem w_ine_f (hd : decode cc pc = .ok (.ifCond .ne off, 3)) (ht : ztgt pc off = some t) (h : x.toInt = 0) (k : ZW X d own ini ret cc Q (pc + 3, ml, st, M)) : ZW X d own ini ret cc Q (pc, ml, .int x :: st, M) := by
  refine w_br hd rfl rfl ?_ k
  simp only [zbr, ht, if_true]
  rw [if_pos (zpt (c := 0) rfl h)]
theorem w_cne_t (hd : decode cc pc = .ok (.if_icmp .ne off, 3)) (ht : ztgt pc off = some t) (h : x.toInt ≠ y.toInt) (k : ZW X d own ini ret cc Q (t, ml, st, M)) : ZW X d own ini ret cc Q (pc, ml, .int y :: .int x :: st, M) := by
  refine w_br hd rfl rfl ?_ k
  simp only [zbr, ht, if_true]
  rw [if_neg (fun z => h (by rw [z]))]
theorem w_cne_f (hd : decode cc pc = .ok (.if_icmp .ne off, 3)) (ht : ztgt pc off = some t) (h : x.toInt = y.toInt) (k : ZW X d own ini ret cc Q (pc + 3, ml, st, M)) : ZW X d own ini ret cc Q (pc, ml, .int y :: .int x :: st, M) := by
  refine w_br hd rfl rfl ?_ k
  simp only [zbr, ht, if_true]
  rw [if_pos (Int32.toInt_inj.mp h)]
theorem w_ilt_t (hd : decode cc pc = .ok (.ifCond .lt off, 3)) (ht : ztgt pc off = some t) (h : x.toInt < 0) (k : ZW X d own ini ret cc Q (t, ml, st, M)) : ZW X d own ini ret cc Q (pc, ml, .int x :: st, M) := by
  refine w_br hd rfl rfl ?_ k
  simp only [zbr, ht, if_true]
  rw [if_pos (Int32.lt_iff_toInt_lt.mpr (by have e : (0 : Int32).toInt = 0 := rfl; omega))]
theorem w_ilt_f (hd : decode cc pc = .ok (.ifCond .lt off, 3)) (ht : ztgt pc off = some t) (h : 0 ≤ x.toInt) (k : ZW X d own ini ret cc Q (pc + 3, ml, st, M)) : ZW X d own ini ret cc Q (pc, ml, .int x :: st, M) := by
  refine w_br hd rfl rfl ?_ k
  simp only [zbr, ht, if_true]
  rw [if_neg (fun z => absurd (Int32.lt_iff_toInt_lt.mp z) (by have e : (0 : Int32).toInt = 0 := rfl; omega))]
theorem w_clt_t (hd : decode cc pc = .ok (.if_icmp .lt off, 3)) (ht : ztgt pc off = some t) (h : x.toInt < y.toInt) (k : ZW X d own ini ret cc Q (t, ml, st, M)) : ZW X d own ini ret cc Q (pc, ml, .int y :: .int x :: st, M) := by
  refine w_br hd rfl rfl ?_ k
  simp only [zbr, ht, if_true]
  rw [if_pos (Int32.lt_iff_toInt_lt.mpr h)]
theorem w_clt_f (hd : decode cc pc = .ok (.if_icmp .lt off, 3)) (ht : ztgt pc off = some t) (h : y.toInt ≤ x.toInt) (k : ZW X d own ini ret cc Q (pc + 3, ml, st, M)) : ZW X d own ini ret cc Q (pc, ml, .int y :: .int x :: st, M) := by
  refine w_br hd rfl rfl ?_ k
  simp only [zbr, ht, if_true]
  rw [if_neg (fun z => absurd (Int32.lt_iff_toInt_lt.mp z) (by omega))]
theorem w_ige_t (hd : decode cc pc = .ok (.ifCond .ge off, 3)) (ht : ztgt pc off = some t) (h : 0 ≤ x.toInt) (k : ZW X d own ini ret cc Q (t, ml, st, M)) : ZW X d own ini ret cc Q (pc, ml, .int x :: st, M) := by
  refine w_br hd rfl rfl ?_ k
  simp only [zbr, ht, if_true]
  rw [if_pos (Int32.le_iff_toInt_le.mpr (by have e : (0 : Int32).toInt = 0 := rfl; omega))]
theorem w_ige_f (hd : decode cc pc = .ok (.ifCond .ge off, 3)) (ht : ztgt pc off = some t) (h : x.toInt < 0) (k : ZW X d own ini ret cc Q (pc + 3, ml, st, M)) : ZW X d own ini ret cc Q (pc, ml, .int x :: st, M) := by
  refine w_br hd rfl rfl ?_ k
  simp only [zbr, ht, if_true]
  rw [if_neg (fun z => absurd (Int32.le_iff_toInt_le.mp z) (by have e : (0 : Int32).toInt = 0 := rfl; omega))]
theorem w_cge_t (hd : decode cc pc = .ok (.if_icmp .ge off, 3)) (ht : ztgt pc off = some t) (h : y.toInt ≤ x.toInt) (k : ZW X d own ini ret cc Q (t, ml, st, M)) : ZW X d own ini ret cc Q (pc, ml, .int y :: .int x :: st, M) := by
  refine w_br hd rfl rfl ?_ k
  simp only [zbr, ht, if_true]
  rw [if_pos (Int32.le_iff_toInt_le.mpr h)]
theorem w_cge_f (hd : decode cc pc = .ok (.if_icmp .ge off, 3)) (ht : ztgt pc off = some t) (h : x.toInt < y.toInt) (k : ZW X d own ini ret cc Q (pc + 3, ml, st, M)) : ZW X d own ini ret cc Q (pc, ml, .int y :: .int x :: st, M) := by
  refine w_br hd rfl rfl ?_ k
  simp only [zbr, ht, if_true]
  rw [if_neg (fun z => absurd (Int32.le_iff_toInt_le.mp z) (by omega))]
theorem w_igt_t (hd : decode cc pc = .ok (.ifCond .gt off, 3)) (ht : ztgt pc off = some t) (h : 0 < x.toInt) (k : ZW X d own ini ret cc Q (t, ml, st, M)) : ZW X d own ini ret cc Q (pc, ml, .int x :: st, M) := by
  refine w_br hd rfl rfl ?_ k
  simp only [zbr, ht, if_true]
  rw [if_pos (Int32.lt_iff_toInt_lt.mpr (by have e : (0 : Int32).toInt = 0 := rfl; omega))]
theorem w_igt_f (hd : decode cc pc = .ok (.ifCond .gt off, 3)) (ht : ztgt pc off = some t) (h : x.toInt ≤ 0) (k : ZW X d own ini ret cc Q (pc + 3, ml, st, M)) : ZW X d own ini ret cc Q (pc, ml, .int x :: st, M) := by
  refine w_br hd rfl rfl ?_ k
  simp only [zbr, ht, if_true]
  rw [if_neg (fun z => absurd (Int32.lt_iff_toInt_lt.mp z) (by have e : (0 : Int32).toInt = 0 := rfl; omega))]
theorem w_cgt_t (hd : decode cc pc = .ok (.if_icmp .gt off, 3)) (ht : ztgt pc off = some t) (h : y.toInt < x.toInt) (k : ZW X d own ini ret cc Q (t, ml, st, M)) : ZW X d own ini ret cc Q (pc, ml, .int y :: .int x :: st, M) := by
  refine w_br hd rfl rfl ?_ k
  simp only [zbr, ht, if_true]
  rw [if_pos (Int32.lt_iff_toInt_lt.mpr h)]
theorem w_cgt_f (hd : decode cc pc = .ok (.if_icmp .gt off, 3)) (ht : ztgt pc off = some t) (h : x.toInt ≤ y.toInt) (k : ZW X d own ini ret cc Q (pc + 3, ml, st, M)) : ZW X d own ini ret cc Q (pc, ml, .int y :: .int x :: st, M) := by
  refine w_br hd rfl rfl ?_ k
  simp only [zbr, ht, if_true]
  rw [if_neg (fun z => absurd (Int32.lt_iff_toInt_lt.mp z) (by omega))]
theorem w_ile_t (hd : decode cc pc = .ok (.ifCond .le off, 3)) (ht : ztgt pc off = some t) (h : x.toInt ≤ 0) (k : ZW X d own ini ret cc Q (t, ml, st, M)) : ZW X d own ini ret cc Q (pc, ml, .int x :: st, M) := by
  refine w_br hd rfl rfl ?_ k
  simp only [zbr, ht, if_true]
  rw [if_pos (Int32.le_iff_toInt_le.mpr (by have e : (0 : Int32).toInt = 0 := rfl; omega))]
theorem w_ile_f (hd : decode cc pc = .ok (.ifCond .le off, 3)) (ht : ztgt pc off = some t) (h : 0 < x.toInt) (k : ZW X d own ini ret cc Q (pc + 3, ml, st, M)) : ZW X d own ini ret cc Q (pc, ml, .int x :: st, M) := by
  refine w_br hd rfl rfl ?_ k
  simp only [zbr, ht, if_true]
  rw [if_neg (fun z => absurd (Int32.le_iff_toInt_le.mp z) (by have e : (0 : Int32).toInt = 0 := rfl; omega))]
theorem w_cle_t (hd : decode cc pc = .ok (.if_icmp .le off, 3)) (ht : ztgt pc off = some t) (h : x.toInt ≤ y.toInt) (k : ZW X d own ini ret cc Q (t, ml, st, M)) : ZW X d own ini ret cc Q (pc, ml, .int y :: .int x :: st, M) := by
  refine w_br hd rfl rfl ?_ k
  simp only [zbr, ht, if_true]
  rw [if_pos (Int32.le_iff_toInt_le.mpr h)]
theorem w_cle_f (hd : decode cc pc = .ok (.if_icmp .le off, 3)) (ht : ztgt pc off = some t) (h : y.toInt < x.toInt) (k : ZW X d own ini ret cc Q (pc + 3, ml, st, M)) : ZW X d own ini ret cc Q (pc, ml, .int y :: .int x :: st, M) := by
  refine w_br hd rfl rfl ?_ k
  simp only [zbr, ht, if_true]
  rw [if_neg (fun z => absurd (Int32.le_iff_toInt_le.mp z) (by omega))]
theorem zbr_ts {d0 lo hi : Int} {offs : Array Int} {r : List Value} {j : Int} (hx : x.toInt = j) (h : (if j < lo ∨ hi < j then ztgt pc d0 else match offs[(j - lo).toNat]? with
  | none => none
  | some o => ztgt pc o) = some t) : zbr (.tableswitch d0 lo hi offs) pc n (.int x :: r) = some (t, r) := by
  subst hx
  simp only [zbr]
  split at h
  · rename_i q
    rw [if_pos q, h]
    rfl
  · rename_i q
    rw [if_neg q]
    split at h
    · cases h
    · rename_i q2
      simp only [q2]
      rw [h]
      rfl
/-- tableswitch -/
theorem w_ts {d0 lo hi j : Int} {offs : Array Int} (hd : decode cc pc = .ok (.tableswitch d0 lo hi offs, n)) (hx : x.toInt = j) (h : (if j < lo ∨ hi < j then ztgt pc d0 else match offs[(j - lo).toNat]? with
  | none => none
  | some o => ztgt pc o) = some t) (k : ZW X d own ini ret cc Q (t, ml, st, M)) : ZW X d own ini ret cc Q (pc, ml, .int x :: st, M) := w_br hd rfl rfl (zbr_ts hx h) k
theorem w_td {d0 lo hi : Int} {offs : Array Int} (hd : decode cc pc = .ok (.tableswitch d0 lo hi offs, n)) (hx : x.toInt < lo ∨ hi < x.toInt) (h : ztgt pc d0 = some t) (k : ZW X d own ini ret cc Q (t, ml, st, M)) : ZW X d own ini ret cc Q (pc, ml, .int x :: st, M) := w_br hd rfl rfl (zbr_ts rfl (by rw [if_pos hx]; exact h)) k
theorem zlk_def : ∀ {l : List (Int × Int)} {d k : Int}, (∀ p ∈ l, p.1 ≠ k) → Op.lookupswitch.offset l d k = d
  | [], _, _, _ => rfl
  | (a, o) :: l, d, k, h => by
    rw [Op.lookupswitch.offset_cons, if_neg (h (a, o) List.mem_cons_self)]
    exact zlk_def fun p hp => h p (List.mem_cons_of_mem _ hp)
/-- lookupswitch -/
theorem w_lk {d0 j : Int} {ps : Array (Int × Int)} (hd : decode cc pc = .ok (.lookupswitch d0 ps, n)) (hs : ((ps.toList.zip (ps.toList.drop 1)).all fun (a, next) => a.1 < next.1) = true) (hx : x.toInt = j) (h : ztgt pc (Op.lookupswitch.offset ps.toList d0 j) = some t) (k : ZW X d own ini ret cc Q (t, ml, st, M)) : ZW X d own ini ret cc Q (pc, ml, .int x :: st, M) := by
  subst hx
  refine w_br hd rfl rfl ?_ k
  simp only [zbr]
  rw [if_pos hs, h]
  rfl
theorem w_ld {d0 : Int} {ps : Array (Int × Int)} (hd : decode cc pc = .ok (.lookupswitch d0 ps, n)) (hs : ((ps.toList.zip (ps.toList.drop 1)).all fun (a, next) => a.1 < next.1) = true) (hx : ∀ p ∈ ps.toList, p.1 ≠ x.toInt) (h : ztgt pc d0 = some t) (k : ZW X d own ini ret cc Q (t, ml, st, M)) : ZW X d own ini ret cc Q (pc, ml, .int x :: st, M) := w_lk hd hs rfl (by rw [zlk_def hx]; exact h) k
/-- getfield -/
theorem w_gf {idx ci k a nn : Nat} {s' : List Value} {v : Value} (hd : decode cc pc = .ok (.getfield idx, 3)) (hf : zfld own idx = some (ci, k)) (hS : zSh M) (he : zS0[a]? = some (ci, nn)) (hv : zvl M a k = some v) (kk : ZW X d own ini ret cc Q (pc + 3, ml, v :: s', M)) : ZW X d own ini ret cc Q (pc, ml, .ref a :: s', M) := by
  obtain ⟨vs, h1, h2, h3⟩ := zSh_get hS he
  exact ZW.of (fun _ z => ZX.gf hd hf h3 (by rw [← zvl_eq h1]; exact hv) z) kk
/-- putfield -/
theorem w_pf {idx ci k a nn : Nat} {s' : List Value} {v : Value} (hd : decode cc pc = .ok (.putfield idx, 3)) (hf : zfld own idx = some (ci, k)) (hU : zU W M) (he : zS0[a]? = some (ci, nn)) (hk : k < nn) (hq1 : narrow (zty ci k) v = v) (hq2 : fits (zty ci k) v = true) (hq3 : (ztb ci k).2.2.2 = false) (kk : ∀ M', zU ((a, k) :: W) M' → zvl M' a k = some v → (∀ a' k', (a ≠ a' ∨ k ≠ k') → zvl M' a' k' = zvl M a' k') → ZW X d own ini ret cc Q (pc + 3, ml, s', M')) : ZW X d own ini ret cc Q (pc, ml, v :: .ref a :: s', M) := by
  obtain ⟨vs, h1, h2, h3⟩ := zSh_get hU.1 he
  have h4 := kk (zput M a k v) (zU_put hU he) (zvl_put hU.1 he hk) (fun a' k' h => zvl_ne h)
  rw [zput_eq h1] at h4
  exact ZW.of (fun _ z => ZX.pf hd hf h3 ⟨by omega, hq1, hq2, fun h => by rw [hq3] at h; cases h⟩ z) h4
/-- iaload -/
theorem w_ia {a k nn : Nat} {s' : List Value} {v : Value} (hd : decode cc pc = .ok (.iaload, 1)) (hS : zSh M) (he : zS0[a]? = some (10, nn)) (hx : x.toInt = (k : Int)) (hv : zvl M a k = some v) (kk : ZW X d own ini ret cc Q (pc + 1, ml, v :: s', M)) : ZW X d own ini ret cc Q (pc, ml, .int x :: .ref a :: s', M) := by
  obtain ⟨vs, h1, h2, h3⟩ := zSh_get hS he
  rw [zvl_eq h1] at hv
  have hlt : k < vs.length := (List.getElem?_eq_some_iff.mp hv).1
  have hlt2 : a < M.length := (List.getElem?_eq_some_iff.mp h1).1
  have hb : a ≠ zBig := by
    have h4 : M.length = 440 := zSh_len hS
    unfold zBig
    omega
  exact ZW.of (fun _ z => ZX.ia hd hb h3 (zidxI hx hlt) hv z) kk
/-- iastore -/
theorem w_is {a k nn : Nat} {s' : List Value} (hd : decode cc pc = .ok (.iastore, 1)) (hU : zU W M) (he : zS0[a]? = some (10, nn)) (hx : x.toInt = (k : Int)) (hk : k < nn) (kk : ∀ M', zU ((a, k) :: W) M' → zvl M' a k = some (.int y) → (∀ a' k', (a ≠ a' ∨ k ≠ k') → zvl M' a' k' = zvl M a' k') → ZW X d own ini ret cc Q (pc + 1, ml, s', M')) : ZW X d own ini ret cc Q (pc, ml, .int y :: .int x :: .ref a :: s', M) := by
  obtain ⟨vs, h1, h2, h3⟩ := zSh_get hU.1 he
  have h4 := kk (zput M a k (.int y)) (zU_put hU he) (zvl_put hU.1 he hk) (fun a' k' h => zvl_ne h)
  rw [zput_eq h1] at h4
  exact ZW.of (fun _ z => ZX.is hd h3 (zidxI hx (by omega)) z) h4
/-- a call of a method of one's own -/
theorem w_iv {idx j ci na a nn ml2 pos : Nat} {y : MethodName} {c2 : ByteArray} {ret2 : Option FieldType} {As s' : List Value} (hd : decode cc pc = .ok (.invokevirtual idx, 3)) (hcl : zcall own idx = some (0, j)) (hz : zmt j = some (ci, na, y, c2, ml2, ret2, pos)) (hst : st = As.reverse ++ .ref a :: s') (hn : As.length = na) (hS : zSh M) (he : zS0[a]? = some (ci, nn)) (hcat : zcat s' ≤ 8) (hc : ZV X d j (.ref a :: As) M (fun r1 => ZW X d own ini ret cc Q (pc + 3, ml, r1.1.toList ++ s', r1.2))) : ZW X d own ini ret cc Q (pc, ml, st, M) := by
  obtain ⟨vs, h1, h2, h3⟩ := zSh_get hS he
  obtain ⟨r1, g1, r, g2, g3⟩ := hc
  exact ⟨r, ZX.iv hd hcl hz hst hn h3 hcat g1 g2, g3⟩
/-- a call of a static method -/
theorem w_ss {idx j ci na ml2 pos : Nat} {y : MethodName} {c2 : ByteArray} {ret2 : Option FieldType} {As s' : List Value} (hd : decode cc pc = .ok (.invokestatic idx, 3)) (hcl : zcall own idx = some (1, j)) (hz : zmt j = some (ci, na, y, c2, ml2, ret2, pos)) (hst : st = As.reverse ++ s') (hn : As.length = na) (hcat : zcat s' ≤ 8) (hc : ZV X d j As M (fun r1 => ZW X d own ini ret cc Q (pc + 3, ml, r1.1.toList ++ s', r1.2))) : ZW X d own ini ret cc Q (pc, ml, st, M) := by
  obtain ⟨r1, g1, r, g2, g3⟩ := hc
  have e1 : st.drop na = s' := by
    rw [hst, ← hn, ← List.length_reverse, List.drop_left]
  have e2 : (st.take na).reverse = As := by
    rw [hst, ← hn, ← List.length_reverse, List.take_left, List.reverse_reverse]
  have e3 : na ≤ st.length := by
    rw [hst, ← hn]
    simp
  refine ⟨r, ZX.ca g1 hd ?_ ?_ ?_ ?_ ?_ ?_ g2, g3⟩
  · cases st <;> rfl
  · cases st <;> rfl
  · cases st <;> rfl
  · cases st <;> rfl
  · cases st <;> rfl
  · simp only [zinv, hcl, hz, e1, e2]
    rw [if_pos ⟨e3, hcat⟩, if_pos (by simp)]
    rfl
theorem w_in (hd : decode cc pc = .ok (i, 3)) (h1 : zret ret i st = none) (h2 : zpure i st = none) (h3 : zbr i pc 3 st = none) (h4 : zloc i ml st = none) (h5 : zmem own ini X i st M = none) (h : zinv own (fun _ _ _ => none) i st M = some (st', M')) (k : ZW X d own ini ret cc Q (pc + 3, ml, st', M')) : ZW X d own ini ret cc Q (pc, ml, st, M) := by
  refine ZW.of (fun _ z => ZX.step ?_ z) k
  unfold zstep
  simp only [hd, h1, h2, h3, h4, h5, h]
  rw [if_pos trivial]
/-- Math.max, Math.min -/
theorem w_mx {idx : Nat} {s' : List Value} (hd : decode cc pc = .ok (.invokestatic idx, 3)) (hcl : zcall own idx = some (5, 0)) (hcat : zcat s' ≤ 8) (k : ZW X d own ini ret cc Q (pc + 3, ml, .int (if x < y then y else x) :: s', M)) : ZW X d own ini ret cc Q (pc, ml, .int y :: .int x :: s', M) := by
  refine w_in hd rfl rfl rfl rfl rfl ?_ k
  simp only [zinv, hcl]
  rw [if_pos hcat]
theorem w_mn {idx : Nat} {s' : List Value} (hd : decode cc pc = .ok (.invokestatic idx, 3)) (hcl : zcall own idx = some (6, 0)) (hcat : zcat s' ≤ 8) (k : ZW X d own ini ret cc Q (pc + 3, ml, .int (if y < x then y else x) :: s', M)) : ZW X d own ini ret cc Q (pc, ml, .int y :: .int x :: s', M) := by
  refine w_in hd rfl rfl rfl rfl rfl ?_ k
  simp only [zinv, hcl]
  rw [if_pos hcat]
end ZWR
