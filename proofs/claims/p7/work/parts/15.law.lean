/-! THE CLAIM OUT OF ONE WALK OF THE LAW'S BODY. Your part is whole_start (and what it stands on); all else here is the same for every law, but numbers. -/
def R_law : String := "SleepRopeLaw"
def lw_P (b : Addr) (xs : List Int32) (args : Array Value) (s : State) : Prop := args = #[.ref b] ∧ s.IntsAt b xs ∧ xs.length ≤ 3072 ∧ (Jvm.Cond.and given_1 narrow_1).before args s = true
def lw_Q (_ : Array Value) (s : State) (o : Outcome) (t : State) : Prop := o = .returned (some (.int 1)) ∧ Framed s o t [] 600000 7302250
def lw_Z (below : List Frame) (a : Array Value) (s : State) : State → Prop := fun t => ∃ o, t.status = .running ∧ Ended t below o ∧ lw_Q a s o t
/-- the law's own end, with 1 on the stack, nothing written that was there before, its room as the claim has it -/
theorem lw_ret {p : Program} {l : Launch} {e : Env} {s : State} {m : MethodId} {below : List Frame} {meth : Method} {c : Code} {b : Nat} (hx : p.tables.exec = Jvm.exec) (hb : c.code = code) (hr : meth.sig.returnType = ret) (hlocks : meth.locks = false) {pc : Nat} {H : Heap} {ls : Array Slot} (hdg : decode code pc = .ok (.ireturn, 1)) : W p l e room_1 s m #[Value.ref b] below meth c H [] 600000 7302250 (lw_Z below #[Value.ref b] s) (F0 m pc ls [.int 1]) := by
  intro T hT X
  obtain ⟨fs, hret, hrun, hended, hW, hframe⟩ := X.leave (v := some (.int 1)) (hlocks := hlocks) (fun h => by rw [hr] at h; cases h)
  have hmeth' : T.vm.method? m = some meth := X.method'
  refine ⟨T.setFrames fs, ?_, .returned (some (.int 1)), hrun, hended, rfl, ⟨_, rfl⟩, hW, hframe⟩
  jvm_step X.here [X.here.top, hx, hb, hdg, hmeth', hr, ret, narrow_b1]
  (try refine ⟨rfl, ?_⟩); (try refine ⟨rfl, ?_⟩)
  first | (intro acts; rw [hret _ acts rfl rfl rfl]) | rw [hret _ _ rfl rfl rfl]
  exact Steps.refl _
/-- what holds at the law's entry: the machine, the code, the tables' words (any of lw_tbl by 'hts w (by decide +kernel)'), the script of L ints xs at the cell b, what the Statement gives of the start (any of its parts by flat_of_before) -/
def lw_At (p : Program) (s : State) (m : MethodId) (meth : Method) (c : Code) (b L : Nat) (xs : Nat → Int32) : Prop :=
  p.tables.exec = Jvm.exec ∧ c.code = code ∧ meth.sig.returnType = ret ∧ c.maxLocals = 4 ∧ s.vm.findClass R_law = some m.cls ∧ (∀ w ∈ lw_tbl, w.before #[Value.ref b] s = true) ∧ va_X b L xs s s.heap ∧ b < s.heap.size ∧ meth.locks = false ∧ (Jvm.Cond.and given_1 narrow_1).before #[Value.ref b] s = true
/-! THE LAW OUT OF ONE RUN OF THE SMALL MACHINE -/
abbrev zgv : Jvm.Cond := Jvm.Cond.and given_1 narrow_1
def ztm (k : Nat) : Term := .string RX5 (ztxI k)
def zof : Nat → Nat
  | 0 => 9
  | _ => 154
theorem zgv_ex : ∀ k, k < 2 → (flatC zgv)[zof k]? = some (.exactly (ztm k) "java/lang/String") := by decide +kernel
theorem zgv_co : ∀ k, k < 2 → (flatC zgv)[zof k + 1]? = some (.eq (.field (ztm k) "java/lang/String" "coder" "B") (.int 0)) := by decide +kernel
theorem zgv_ar : ∀ k, k < 2 → (flatC zgv)[zof k + 2]? = some (.arrayOf (.field (ztm k) "java/lang/String" "value" "[B") .byte) := by decide +kernel
theorem zgv_le : ∀ k, k < 2 → (flatC zgv)[zof k + 3]? = some (.eq (.length (.field (ztm k) "java/lang/String" "value" "[B")) (.int (Int32.ofNat (zlen.getD k 0)))) := by decide +kernel
theorem zgv_el0 : ∀ j, j < 141 → (flatC zgv)[zof 0 + 4 + j]? = some (.eq (.elem (.field (ztm 0) "java/lang/String" "value" "[B") (.int (Int32.ofNat j))) (.int ((zbyt.getD 0 []).getD j 0))) := by decide +kernel
theorem zgv_el1 : ∀ j, j < 14 → (flatC zgv)[zof 1 + 4 + j]? = some (.eq (.elem (.field (ztm 1) "java/lang/String" "value" "[B") (.int (Int32.ofNat j))) (.int ((zbyt.getD 1 []).getD j 0))) := by decide +kernel
theorem zgv_ne : (flatC zgv)[172]? = some (.not (.eq (ztm 0) (ztm 1))) := by decide +kernel
theorem zgv_cs : (flatC zgv)[4]? = some (.eq (.static "java/lang/String" "COMPACT_STRINGS" "Z") (.int 1)) := by decide +kernel
theorem zgv_si : (flatC zgv)[5]? = some (.isRef (.static "jdk/internal/util/Preconditions" "SIOOBE_FORMATTER" "Ljava/util/function/BiFunction;")) := by decide +kernel
theorem zw_st0 : .laysStatic "java/lang/String" "COMPACT_STRINGS" "Z" ∈ lw_tbl := List.mem_of_getElem? (i := 310) (by decide +kernel)
theorem zw_st1 : .laysStatic "jdk/internal/util/Preconditions" "SIOOBE_FORMATTER" "Ljava/util/function/BiFunction;" ∈ lw_tbl := List.mem_of_getElem? (i := 326) (by decide +kernel)
theorem zw_in0 : .initialized "java/lang/String" ∈ lw_tbl := List.mem_of_getElem? (i := 130) (by decide +kernel)
theorem zw_in1 : .initialized "jdk/internal/util/Preconditions" ∈ lw_tbl := List.mem_of_getElem? (i := 132) (by decide +kernel)
theorem zw_ao : .arrayOver (.object RX6) ∈ lw_tbl := List.mem_of_getElem? (i := 482) (by decide +kernel)
theorem zw_sr0 : .stringRef RX5 (ztxI 0) (ztxS 0) ∈ lw_tbl := List.mem_of_getElem? (i := 300) (by decide +kernel)
theorem zw_sr1 : .stringRef RX5 (ztxI 1) (ztxS 1) ∈ lw_tbl := List.mem_of_getElem? (i := 674) (by decide +kernel)
theorem zinst {ci : Nat} (h : ci < 10) : .instantiable (zcn ci) (znf ci) ∈ zW := by
  match ci, h with
  | 0, _ => exact (znew_ok (own := 8) (idx := 37) rfl).2.2.1
  | 1, _ => exact (znew_ok (own := 5) (idx := 28) rfl).2.2.1
  | 2, _ => exact (znew_ok (own := 1) (idx := 48) rfl).2.2.1
  | 3, _ => exact (znew_ok (own := 8) (idx := 44) rfl).2.2.1
  | 4, _ => exact (znew_ok (own := 8) (idx := 58) rfl).2.2.1
  | 5, _ => exact (znew_ok (own := 8) (idx := 13) rfl).2.2.1
  | 6, _ => exact (znew_ok (own := 8) (idx := 27) rfl).2.2.1
  | 7, _ => exact (znew_ok (own := 3) (idx := 15) rfl).2.2.1
  | 8, _ => exact (znew_ok (own := 10) (idx := 7) rfl).2.2.1
  | 9, _ => exact (znew_ok (own := 10) (idx := 10) rfl).2.2.1
theorem zvw_lt {k : Nat} {q : vw_C} (h : vwCl[k]? = some q) : k < 10 ∧ q = (zcn k, ztb k, znf k) := by
  have h1 : k < 10 := (List.getElem?_eq_some_iff.mp h).1
  exact ⟨h1, Option.some.inj (h.symm.trans (zcls_ok h1).2.2.2.1)⟩
theorem zctx {p : Program} {s : State} {m : MethodId} {meth : Method} {c : Code} {b L : Nat} {xs : Nat → Int32} (C0 : lw_At p s m meth c b L xs) : ∃ (D : va_G) (cy : Nat → ClassId) (g : Nat → Nat), zKn D cy g s.heap.size s.heap ((List.range L).map xs) s ∧ g 0 = b := by
  obtain ⟨hx, hb, hr, hml, hown, hts, hX, hbl, hlocks, hgv⟩ := C0
  have hts2 : ∀ w ∈ zW, w.before #[Value.ref b] s = true := fun w hw => hts w (zW_tbl hw)
  have hfl := flat_of_before _ hgv
  have fl : ∀ {i : Nat} {w : Jvm.Cond}, (flatC zgv)[i]? = some w → w.before #[Value.ref b] s = true := fun h => hfl _ (List.mem_of_getElem? h)
  have hA : ∀ a : Nat, a < s.heap.size → ¬ (fun q : Nat => s.heap.size ≤ q) a := fun a h => Nat.not_le.mpr h
  -- classes
  have hcls : ∀ ci : Nat, ∃ x : ClassId × (Nat → Nat), ci < 10 → u_Kn s (zcn ci) (ztb ci) (znf ci) x.1 x.2 := by
    intro ci
    by_cases h : ci < 10
    · obtain ⟨cC, iS, hk⟩ := u_known (n := znf ci) hts2 (zcls_ok h).1 (hts2 _ (zinst h))
      exact ⟨(cC, iS), fun _ => hk⟩
    · exact ⟨(0, fun _ => 0), fun q => absurd q h⟩
  obtain ⟨f, hf⟩ := Classical.axiomOfChoice hcls
  -- arrays
  obtain ⟨ai, ki, mi, i1, i2, i3⟩ := Cond.arrayClass_spec (hts2 _ zw_int)
  obtain ⟨aj, kj, mj, j1, j2, j3⟩ := Cond.arrayClass_spec (hts2 _ zw_long)
  obtain ⟨az, kz, mz, z1, z2, z3⟩ := Cond.arrayClass_spec (hts2 _ zw_boolean)
  obtain ⟨comp, ar, kr, r1, -, r2, r3, r4⟩ := Cond.arrayOver_spec (hts _ zw_ao)
  -- the texts
  obtain ⟨adK, adV, hVS, hRef⟩ := vk_Sof (args := #[Value.ref b]) (s := s) (N := 2) (tm := ztm) (len := zlen) (byt := zbyt) (A := fun q => s.heap.size ≤ q)
    (fun i hi => by obtain ⟨-, h2, h3, -⟩ := zs_all i hi; rw [h3]; omega)
    (fun i hi => fl (zgv_ex i hi)) (fun i hi => fl (zgv_co i hi)) (fun i hi => fl (zgv_ar i hi)) (fun i hi => fl (zgv_le i hi))
    (fun i hi j hj => by
      have h01 : i = 0 ∨ i = 1 := by omega
      rcases h01 with rfl | rfl
      · exact fl (zgv_el0 j hj)
      · exact fl (zgv_el1 j hj))
    (fun i j hi hj hij => by
      have h01 : (i = 0 ∧ j = 1) ∨ (i = 1 ∧ j = 0) := by omega
      rcases h01 with ⟨rfl, rfl⟩ | ⟨rfl, rfl⟩
      · exact Or.inl (fl zgv_ne)
      · exact Or.inr (fl zgv_ne)) hA
  refine ⟨(fun k => (f k).1, fun k => (f k).2), (fun k => if k = 10 then ai else if k = 11 then aj else if k = 12 then az else ar), (fun k => if k = 0 then b else if k < 3 then adK (k - 1) else adV (k - 3)), ⟨⟨?_, ?_⟩, ?_, ?_, ?_, ?_⟩, rfl⟩
  · intro k q hq
    obtain ⟨h1, rfl⟩ := zvw_lt hq
    exact hf k h1
  · intro k q hq
    have hlt : k < 4 := (List.getElem?_eq_some_iff.mp hq).1
    have ho : k = 0 ∨ k = 1 ∨ k = 2 ∨ k = 3 := by omega
    rcases ho with rfl | rfl | rfl | rfl
    · cases hq
      exact ⟨fun N z => ⟨(fun k h => by cases h), ki, i2, mi, i3⟩, i1⟩
    · cases hq
      exact ⟨fun N z => ⟨(fun k h => by cases h), kj, j2, mj, j3⟩, j1⟩
    · cases hq
      exact ⟨fun N z => ⟨(fun k h => by cases h), kz, z2, mz, z3⟩, z1⟩
    · cases hq
      exact ⟨fun N z => ⟨(fun k h => by cases h), kr, r2, comp, r3⟩, kr, comp, r2, r3, r1, r4⟩
  · obtain ⟨scr, h1, h2, h3, h4, h5⟩ := hX
    refine ⟨scr, h1, h2, h3, by rw [h4]; simp, fun j hj => ?_⟩
    have hj' : j < L := by simpa using hj
    rw [h5 j hj']
    simp [hj']
  · exact hbl
  · intro w hw hn
    cases w with
    | methodLinkNest a i x h => exact va_Nw.of rfl (hts _ hw)
    | _ => cases hn
  · have g1 : ∀ i : Nat, i < 2 → (fun k : Nat => if k = 0 then b else if k < 3 then adK (k - 1) else adV (k - 3)) (1 + i) = adK i := by
      intro i hi
      show (if 1 + i = 0 then b else if 1 + i < 3 then adK (1 + i - 1) else adV (1 + i - 3)) = adK i
      rw [if_neg (by omega), if_pos (by omega), Nat.add_sub_cancel_left]
    have g3 : ∀ i : Nat, (fun k : Nat => if k = 0 then b else if k < 3 then adK (k - 1) else adV (k - 3)) (3 + i) = adV i := by
      intro i
      show (if 3 + i = 0 then b else if 3 + i < 3 then adK (3 + i - 1) else adV (3 + i - 3)) = adV i
      rw [if_neg (by omega), if_neg (by omega), Nat.add_sub_cancel_left]
    refine ⟨fun k hk => ?_, ⟨fun i hi => ?_, fun i j hi hj hij => ?_⟩, fun k hk => ?_, ?_, ?_, va_AO.of (hts _ zw_ao)⟩
    · rw [g1 k hk]
      have h01 : k = 0 ∨ k = 1 := by omega
      rcases h01 with rfl | rfl
      · exact vk_R.of (A := #[]) (by first | exact va_tabs rfl rfl (hts _ zw_sr0) | exact hts _ zw_sr0) (by first | exact hRef 0 (by omega) | (rw [← Term.string_eval_of_vm (args := #[Value.ref b]) (s := s) rfl]; exact hRef 0 (by omega)))
      · exact vk_R.of (A := #[]) (by first | exact va_tabs rfl rfl (hts _ zw_sr1) | exact hts _ zw_sr1) (by first | exact hRef 1 (by omega) | (rw [← Term.string_eval_of_vm (args := #[Value.ref b]) (s := s) rfl]; exact hRef 1 (by omega)))
    · have h1 := hVS.1 i hi
      rw [← g1 i hi, ← g3 i] at h1
      exact h1
    · have h1 := hVS.2 i j hi hj
      rw [← g1 i hi, ← g1 j hj] at h1
      exact h1 hij
    · rw [g1 k hk]
      obtain ⟨cell, q1, q2, q3, q4⟩ := (hVS.1 k hk).1
      exact (Array.getElem?_eq_some_iff.mp q1).1
    · exact va_Zof (hts _ zw_st0) (hts _ zw_in0) (va_eqi (fl zgv_cs)) hA
    · exact va_Zqof (hts _ zw_st1) (hts _ zw_in1) (fl zgv_si) hA
def zlawR : Option FieldType := some .boolean
/-- the law's run in the small machine: d calls deep, F steps each -/
def zlaw (X : List Int32) (F d : Nat) : Option zRes := zloop (zstep 10 false zlawR code X (zev X F d)) F (0, zent [.ref zBig] 4, [], [])
set_option maxHeartbeats 4000000 in
theorem zlaw_start {p : Program} {e : Env} {s : State} {m : MethodId} {below : List Frame} {meth : Method} {c : Code} (l : Launch) {b L : Nat} {xs : Nat → Int32} (C0 : lw_At p s m meth c b L xs) {F d : Nat} {M : zM} (hd : d ≤ 2000) (hrun : zlaw ((List.range L).map xs) F d = some (some (.int 1), M)) (hM : M.length ≤ 600000) (hS : zsl M ≤ 7302250) : W p l e room_1 s m #[Value.ref b] below meth c s.heap [] 0 0 (lw_Z below #[Value.ref b] s) (entryFrame m ([Value.ref b] : List Value).toArray 4) := by
  obtain ⟨D, cy, g, hK, hg⟩ := zctx C0
  obtain ⟨hx, hb, hr, hml, hown, hts, hX, hbl, hlocks, hgv⟩ := C0
  have hts2 : ∀ w ∈ zW, w.before #[Value.ref b] s = true := fun w hw => hts w (zW_tbl hw)
  have e1 : ([Value.ref b] : List Value) = [Value.ref zBig].map (ztr (zad g s.heap.size)) := by
    show _ = [Value.ref (zad g s.heap.size (zBig + 0))]
    rw [zad_big, hg]
  have e2 := lg_entry_eq m (([Value.ref zBig] : List Value).map (ztr (zad g s.heap.size))) 4
  rw [← e1] at e2
  rw [e2]
  have hzl := zent_L (zad g s.heap.size) (vs := [Value.ref zBig]) (n := 4) (by decide)
  rw [← e1] at hzl
  unfold zlaw at hrun
  refine zloop_sim (own := 10) (ini := false) (ret := zlawR) (call := zev ((List.range L).map xs) F d) (d := d) (r := (some (.int 1), M)) (c0 := 0) (s0 := 0) hx hb hts2 hown hK (fun h => by cases h) (zev_met (zstr_ok l D cy g s.heap.size s.heap _) F d) (zstr_ok l D cy g s.heap.size s.heap _) ?_ ?_ ?_ ?_ ?_ F (0, zent [.ref zBig] 4, [], []) hrun s.heap [] 0 0 _ ⟨by simp, by simp, fun q _ => rfl, fun k x hk => by simp at hk⟩ (fun q hq => by cases hq) hzl (by rw [hml]; rfl) rfl rfl
  · show d + 1 ≤ 2048; omega
  · show 40 * (d + 1) ≤ 84000; omega
  · show M.length ≤ 600000 + 0; omega
  · show zsl M ≤ 7302250 + 0; omega
  · intro st i H locs cells slots ls hd hzr hst hR hLo e1 e2
    refine va_forget (fun q hq => hLo q hq) ?_
    refine W.widen (k := 600000) (n := 7302250) (by simp only at e1; omega) (by simp only at e2; omega) ?_
    obtain ⟨pc, ml2, stk, M2⟩ := st
    dsimp only at hd hzr hst ⊢
    unfold zret at hzr
    split at hzr
    · unfold zlawR at hzr
      dsimp only at hzr
      split at hzr
      · cases hzr
        exact lw_ret hx hb hr hlocks hd
      · cases hzr
    · split at hzr <;> cases hzr
    · split at hzr <;> cases hzr
    · cases hzr
/-- WHAT IS LEFT OF THE CLAIM (open): the law's run in the small machine ends with 1 -/
theorem whole_start_open {p : Program} {e : Env} {s : State} {m : MethodId} {below : List Frame} {meth : Method} {c : Code} (l : Launch) {b L : Nat} {xs : Nat → Int32} (hL : L ≤ 3072) (C0 : lw_At p s m meth c b L xs) (hrun : ∀ X : List Int32, X.length ≤ 3072 → ∃ (F d : Nat) (M : zM), d ≤ 2000 ∧ zlaw X F d = some (some (.int 1), M) ∧ M.length ≤ 600000 ∧ zsl M ≤ 7302250) : W p l e room_1 s m #[Value.ref b] below meth c s.heap [] 0 0 (lw_Z below #[Value.ref b] s) (entryFrame m ([Value.ref b] : List Value).toArray 4) := by
  obtain ⟨F, d, M, hd, hr, hM, hS⟩ := hrun ((List.range L).map xs) (by simp; exact hL)
  exact zlaw_start l C0 hd hr hM hS
