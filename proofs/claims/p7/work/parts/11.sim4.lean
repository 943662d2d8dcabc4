/-! the small machine's calls, steps and runs are the machine's -/
def zroom (d mc ms : Nat) : Jvm.Room := { frames := d, cells := mc, slots := ms, locals := 40 * d }
abbrev zws (y : MethodName) (cc : ByteArray) (ml : Nat) (ret : Option FieldType) : List Jvm.Cond := .code y cc ml ret :: zW
theorem zGood {ws : List Jvm.Cond} (h : ∀ w ∈ ws, w ∈ zW) : GoodIn zW ws := fun w hw => ⟨h w hw, good_of_word (zW_good (h w hw))⟩
theorem zGoodM {y : MethodName} {cc : ByteArray} {ml : Nat} {ret : Option FieldType} (h : .code y cc ml ret ∈ zW) : ∀ w ∈ zws y cc ml ret, w ∈ zW := fun w hw => (List.mem_cons.mp hw).elim (fun z => by rw [z]; exact h) id
def zPc (D : va_G) (cy : Nat → ClassId) (g : Nat → Nat) (base : Nat) (G : Heap) (X : List Int32) (vs : List Value) (M : zM) : Array Value → State → Prop := va_Pc (vs.map (ztr (zad g base))) (fun U => zR D cy g base G M U.heap ∧ zKn D cy g base G X U)
def zQc (D : va_G) (cy : Nat → ClassId) (g : Nat → Nat) (base : Nat) (G : Heap) (r : zRes) : Array Value → State → Outcome → State → Prop := fun _ _ o t => o = .returned (r.1.map (ztr (zad g base))) ∧ zR D cy g base G r.2 t.heap
/-- a method's contract out of one run of the small machine -/
def zMet (l : Launch) (D : va_G) (cy : Nat → ClassId) (g : Nat → Nat) (base : Nat) (G : Heap) (X : List Int32) (d : Nat) (y : MethodName) (cc : ByteArray) (ml : Nat) (ret : Option FieldType) (vs : List Value) (M : zM) (r : zRes) : Prop :=
  Met l y (zws y cc ml ret) (zroom d (r.2.length - M.length) (zsl r.2 - zsl M)) (zPc D cy g base G X vs M) (zQc D cy g base G r) (r.2.length - M.length) (zsl r.2 - zsl M) (fun q => base ≤ q)
/-- the members of the texts: their names, codes -/
def zsy : Nat → MethodName × ByteArray × Nat × Nat
  | 3328 => (yJ0_length_8abf5, cJ0_length_8abf5, 1, 0)
  | 3329 => (yJ0_charAt_5068e, cJ0_charAt_5068e, 2, 1)
  | _ => (yJ0_indexOf_0f7a4, cJ0_indexOf_0f7a4, 2, 1)
def zsr : Nat → Option FieldType
  | 3329 => some .char
  | _ => some .int
/-- what the texts' members must do -/
def zStrOK (l : Launch) (D : va_G) (cy : Nat → ClassId) (g : Nat → Nat) (base : Nat) (G : Heap) (X : List Int32) : Prop :=
  ∀ (j : Nat) (vs : List Value) (M : zM) (r : zRes), zprm j vs M = some r → zMet l D cy g base G X 4 (zsy j).1 (zsy j).2.1 (zsy j).2.2.1 (zsr j) vs M r
def zCallOK (l : Launch) (D : va_G) (cy : Nat → ClassId) (g : Nat → Nat) (base : Nat) (G : Heap) (X : List Int32) (d : Nat) (call : Nat → List Value → zM → Option zRes) : Prop :=
  ∀ (j : Nat) (vs : List Value) (M : zM) (r : zRes), call j vs M = some r → (∀ ci na y cc ml ret pos, zmt j = some (ci, na, y, cc, ml, ret, pos) → zMet l D cy g base G X d y cc ml ret vs M r) ∧ (zmt j = none → zprm j vs M = some r ∧ 4 ≤ d) ∧ M.length ≤ r.2.length ∧ zsl M ≤ zsl r.2
theorem zBlind {D : va_G} {cy : Nat → ClassId} {g : Nat → Nat} {base : Nat} {G : Heap} {X : List Int32} {vs : List Value} {M : zM} : FrameBlind (zPc D cy g base G X vs M) := fun a U f mk h => ⟨h.1, h.2.1, zKn.same (u := U) (U := U.calling f mk a) rfl h.2.2⟩
theorem zsy0 : .code yJ0_length_8abf5 cJ0_length_8abf5 1 (some .int) ∈ zW := zhas_in (pos := 304) (by decide +kernel)
theorem zsy1 : .code yJ0_charAt_5068e cJ0_charAt_5068e 2 (some .char) ∈ zW := zhas_in (pos := 314) (by decide +kernel)
theorem zsy2 : .code yJ0_indexOf_0f7a4 cJ0_indexOf_0f7a4 2 (some .int) ∈ zW := zhas_in (pos := 678) (by decide +kernel)
theorem zarrV_congr {cI : ClassId} {N : Nat} {f f' : Nat → Value} (h : ∀ j, j < N → f j = f' j) : arrV cI N f = arrV cI N f' := by
  unfold arrV
  congr 1
  apply Array.ext
  · simp
  · intro i h1 h2
    simp only [Array.size_ofFn] at h1
    simp only [Array.getElem_ofFn]
    exact h i h1
theorem zcpy_len {f g : List Value} {sp dp n : Nat} (h4 : sp + n ≤ f.length) (h5 : dp + n ≤ g.length) : (zcpy f g sp dp n).length = g.length := by
  simp only [zcpy, List.length_append, List.length_take, List.length_drop]
  omega
theorem zcpy_get {f g : List Value} {sp dp n j : Nat} (h4 : sp + n ≤ f.length) (h5 : dp + n ≤ g.length) : (zcpy f g sp dp n)[j]? = if dp ≤ j ∧ j < dp + n then f[sp + (j - dp)]? else g[j]? := by
  have e1 : (g.take dp).length = dp := by simp; omega
  have e2 : ((f.drop sp).take n).length = n := by simp; omega
  unfold zcpy
  rw [List.append_assoc, List.getElem?_append, e1]
  by_cases c1 : j < dp
  · rw [if_pos c1, if_neg (by omega), List.getElem?_take, if_pos c1]
  · rw [if_neg c1, List.getElem?_append, e2]
    by_cases c2 : j - dp < n
    · rw [if_pos c2, if_pos (by omega), List.getElem?_take, if_pos c2, List.getElem?_drop]
    · rw [if_neg c2, if_neg (by omega), List.getElem?_drop]
      congr 1
      omega
theorem zcpy_zf {ad : Nat → Nat} {f g : List Value} {sp dp n j : Nat} (h4 : sp + n ≤ f.length) (h5 : dp + n ≤ g.length) : zf ad (zcpy f g sp dp n) j = va_cpy (zf ad f) (zf ad g) sp dp n j := by
  simp only [zf, va_cpy, List.getD_eq_getElem?_getD, zcpy_get h4 h5]
  split <;> rfl
theorem zfitA_fits {kd : Nat} {v : Value} (h : zfitA kd v = true) : ∃ x : Int32, v = .int x ∧ (kd = 10 ∨ kd = 12 ∧ fits .boolean (.int x) = true) := by
  unfold zfitA at h
  split at h
  · exact ⟨_, rfl, Or.inl rfl⟩
  · exact ⟨_, rfl, Or.inr ⟨rfl, h⟩⟩
  · cases h
section ZC0
variable {p : Program} {l : Launch} {e : Env} {R : Room} {s : State} {m : MethodId} {args : Array Value} {below : List Frame} {meth : Method} {c : Code} {H : Heap} {locs : List Loc} {cells slots : Nat} {Q : State → Prop} {cc : ByteArray} {pc : Nat} {ls : Array Slot}
variable {D : va_G} {cy : Nat → ClassId} {g : Nat → Nat} {base : Nat} {G : Heap} {X : List Int32} {own : Nat} {M M' : zM}
theorem zacpy_aux {idx : Nat} (hx : p.tables.exec = Jvm.exec) (hb : c.code = cc) (hml : c.maxLocals = ls.size) (hown : s.vm.findClass (zcn own) = some m.cls) (hlink : (Jvm.Cond.methodLink (zcn own) idx arraycopyName).before args s = true) (hnat : (Jvm.Cond.native arraycopyName).before args s = true) (hstat : (Jvm.Cond.static arraycopyName).before args s = true) (hini : (Jvm.Cond.initialized "java/lang/System").before args s = true) (hK : zKn D cy g base G X s) (hR : zR D cy g base G M H) (hLo : zLo base locs) (hfr : 1 ≤ R.frames) (hlo : 40 ≤ R.locals) {r f gg : List Value} {a b kd t0 : Nat} {ty : FieldType} {n dp sp : Int32} (hd : decode cc pc = .ok (.invokestatic idx, 3))
    (hb0 : M[b]? = some (kd, f)) (ha0 : M[a]? = some (kd, gg)) (hk10 : 10 ≤ kd) (ht : (zTys cy)[t0]? = some (cy kd, ty)) (hprim : refKind ty = false) (h1 : ¬ sp < 0) (h2 : ¬ dp < 0) (h3 : ¬ n < 0) (h4 : sp.toNatClampNeg + n.toNatClampNeg ≤ f.length) (h5 : dp.toNatClampNeg + n.toNatClampNeg ≤ gg.length) (hfit : ∀ v ∈ (f.drop sp.toNatClampNeg).take n.toNatClampNeg, ∃ x : Int32, v = .int x ∧ fits ty (.int x) = true) (hcat : zcat r ≤ 8)
    (kk : ∀ H' locs', zR D cy g base G (M.set a (kd, zcpy f gg sp.toNatClampNeg dp.toNatClampNeg n.toNatClampNeg)) H' → zLo base locs' → W p l e R s m args below meth c H' locs' cells slots Q (F0 m (pc + 3) ls (r.map (ztr (zad g base))))) : W p l e R s m args below meth c H locs cells slots Q (F0 m pc ls ((Value.int n :: .int dp :: .ref a :: .int sp :: .ref b :: r).map (ztr (zad g base)))) := by
  have nn : ∀ z : Int32, ¬ z < 0 → z.toInt = (z.toNatClampNeg : Int) := by
    intro z hz
    have hz0 : (0 : Int) ≤ z.toInt := by
      have := Int32.not_lt.mp hz
      simpa using Int32.le_iff_toInt_le.mp this
    show z.toInt = ((z.toInt.toNat : Nat) : Int)
    omega
  have hc0 := hR.arr hb0 hk10
  have hc1 := hR.arr ha0 hk10
  have eb := hR.ad hb0
  have ea := hR.ad ha0
  have hfitv : ∀ (i : Nat), i < n.toNatClampNeg → ∃ x : Int32, zf (zad g base) f (sp.toNatClampNeg + i) = .int x ∧ fits ty (.int x) = true := by
    intro i hi
    have hlt : sp.toNatClampNeg + i < f.length := by omega
    obtain ⟨v, hv⟩ : ∃ v, f[sp.toNatClampNeg + i]? = some v := ⟨_, List.getElem?_eq_getElem hlt⟩
    obtain ⟨x, rfl, hx2⟩ := hfit v (List.mem_of_getElem? (i := i) (by rw [List.getElem?_take, if_pos hi, List.getElem?_drop]; exact hv))
    exact ⟨x, zf_at hv, hx2⟩
  intro T hT X1
  obtain ⟨-, k0, hk0, cm0, hkk0⟩ := (hK.1.2 t0 _ ht).1 f.length (zf (zad g base) f)
  obtain ⟨-, k1, hk1, cm1, hkk1⟩ := (hK.1.2 t0 _ ht).1 gg.length (zf (zad g base) gg)
  obtain ⟨vm', X', step⟩ := X1.arraycopy hx hown hlink hnat hstat hini (src := zad g base b) (dst := zad g base a) (cs := arrV (cy kd) f.length (zf (zad g base) f)) (cd := arrV (cy kd) gg.length (zf (zad g base) gg)) (srcPos := sp) (destPos := dp) (n := n) (by rw [hT]; exact hc0) (by rw [hT]; exact hc1)
    (fun _ h => by cases h) (fun _ h => by cases h) (fun h => by cases h) (fun h => by cases h) hk0 hk1 hkk0 hkk1 (by simp [hprim]) h1 h2 h3
    (by rw [nn sp h1, nn n h3, arrV_size]; omega)
    (by rw [nn dp h2, nn n h3, arrV_size]; omega)
    (fun vm₁ _ i hi => by
      obtain ⟨x, ex, hx2⟩ := hfitv i hi
      have e : (arrV (cy kd) f.length (zf (zad g base) f)).slots.getD (sp.toNatClampNeg + i) .null = .int x := by
        rw [Array.getD_eq_getD_getElem?, arrV_read _ _ (by omega), ex]
        rfl
      refine ⟨?_, ?_⟩
      · rw [e]
        exact hx2
      · rw [e]
        exact trivial)
    (g := F0 m pc ls ((Value.int n :: .int dp :: .ref a :: .int sp :: .ref b :: r).map (ztr (zad g base)))) rfl (by rw [hml]) (rest := r.map (ztr (zad g base))) rfl (by rw [hb]; exact hd) hfr (by rw [zcat_tr]; show 2 * 0 + _ + (nativeFrameWords "java/lang/System" "arraycopy" 5 + 11) ≤ _; rw [show nativeFrameWords "java/lang/System" "arraycopy" 5 = 7 from by decide +kernel]; omega)
  have e1 : copied (arrV (cy kd) f.length (zf (zad g base) f)) (arrV (cy kd) gg.length (zf (zad g base) gg)) sp dp n = arrV (cy kd) (zcpy f gg sp.toNatClampNeg dp.toNatClampNeg n.toNatClampNeg).length (zf (zad g base) (zcpy f gg sp.toNatClampNeg dp.toNatClampNeg n.toNatClampNeg)) := by
    rw [zcpy_len h4 h5, zarrV_congr (f := zf (zad g base) (zcpy f gg _ _ _)) (fun j _ => zcpy_zf h4 h5)]
    exact va_copied (fun z => z) (cy kd) (cy kd) (zf (zad g base) f) (zf (zad g base) gg) h4
  rw [e1] at X' step
  have hl : zad g base a < H.size := (Array.getElem?_eq_some_iff.mp hc1).1
  obtain ⟨t, a1, b1⟩ := kk (H.setIfInBounds (zad g base a) (arrV (cy kd) (zcpy f gg sp.toNatClampNeg dp.toNatClampNeg n.toNatClampNeg).length (zf (zad g base) (zcpy f gg sp.toNatClampNeg dp.toNatClampNeg n.toNatClampNeg)))) _ (hR.set ha0 (by simp) (fun q hq => by simp [Array.getElem?_setIfInBounds, Ne.symm hq]) (by
      unfold zat
      rw [if_neg (by show ¬ kd < 10; omega), ← ea]
      simp [Array.getElem?_setIfInBounds, hl])) (fun q hq => by
      rcases List.mem_append.mp hq with h | h
      · exact hLo q h
      · obtain ⟨z, -, hz⟩ := List.mem_map.mp h
        rw [← hz, ea]
        show base ≤ base + a
        omega) _ (by rw [← hT]; rfl) X'
  exact ⟨t, step t a1, b1⟩
theorem zacpy_sim {idx : Nat} (hx : p.tables.exec = Jvm.exec) (hb : c.code = cc) (hml : c.maxLocals = ls.size) (hown : s.vm.findClass (zcn own) = some m.cls) (hlink : (Jvm.Cond.methodLink (zcn own) idx arraycopyName).before args s = true) (hnat : (Jvm.Cond.native arraycopyName).before args s = true) (hstat : (Jvm.Cond.static arraycopyName).before args s = true) (hini : (Jvm.Cond.initialized "java/lang/System").before args s = true) (hK : zKn D cy g base G X s) (hR : zR D cy g base G M H) (hLo : zLo base locs) (hfr : 1 ≤ R.frames) (hlo : 40 ≤ R.locals) {st st' : List Value} (hd : decode cc pc = .ok (.invokestatic idx, 3)) (h : zacpy M st = some (st', M'))
    (kk : ∀ H' locs' cells' slots', zR D cy g base G M' H' → zLo base locs' → cells' + M.length = cells + M'.length → slots' + zsl M = slots + zsl M' → W p l e R s m args below meth c H' locs' cells' slots' Q (F0 m (pc + 3) ls (st'.map (ztr (zad g base))))) : W p l e R s m args below meth c H locs cells slots Q (F0 m pc ls (st.map (ztr (zad g base)))) := by
  unfold zacpy at h
  split at h
  · split at h
    · rename_i hb0 ha0
      split at h
      · rename_i hq
        obtain ⟨rfl, hkd, h1, h2, h3, h4, h5, hall, hcat⟩ := hq
        cases h
        rcases hkd with rfl | rfl
        · exact zacpy_aux (t0 := 0) (ty := .int) hx hb hml hown hlink hnat hstat hini hK hR hLo hfr hlo hd hb0 ha0 (by omega) rfl rfl h1 h2 h3 h4 h5 (fun v hv => by
            obtain ⟨x, rfl, -⟩ := zfitA_fits (List.all_eq_true.mp hall v hv)
            exact ⟨x, rfl, rfl⟩) hcat (fun H' locs' g1 g2 => kk H' locs' _ _ g1 g2 (by rw [List.length_set]) (by rw [zsl_set ha0 (zcpy_len h4 h5)]))
        · exact zacpy_aux (t0 := 2) (ty := .boolean) hx hb hml hown hlink hnat hstat hini hK hR hLo hfr hlo hd hb0 ha0 (by omega) rfl rfl h1 h2 h3 h4 h5 (fun v hv => by
            obtain ⟨x, rfl, hx2⟩ := zfitA_fits (List.all_eq_true.mp hall v hv)
            rcases hx2 with hx2 | hx2
            · omega
            · exact ⟨x, rfl, hx2.2⟩) hcat (fun H' locs' g1 g2 => kk H' locs' _ _ g1 g2 (by rw [List.length_set]) (by rw [zsl_set ha0 (zcpy_len h4 h5)]))
      · cases h
    · cases h
  · cases h
end ZC0
section ZC
variable {p : Program} {l : Launch} {e : Env} {R : Room} {s : State} {m : MethodId} {args : Array Value} {below : List Frame} {meth : Method} {c : Code} {H : Heap} {locs : List Loc} {cells slots : Nat} {Q : State → Prop} {cc : ByteArray} {pc : Nat} {ls : Array Slot}
variable {D : va_G} {cy : Nat → ClassId} {g : Nat → Nat} {base : Nat} {G : Heap} {X : List Int32} {own : Nat} {M M' : zM}
theorem zcall_go {r : zRes} {a : Array Value} {st0 rest : List Value} {mc ms : Nat} (hr : va_Run p l e R s m args below meth c H locs cells slots mc ms (F0 m pc ls st0) rest (zQc D cy g base G r a) (fun q => base ≤ q)) (hLo : zLo base locs)
    (kk : ∀ H1 locs1, zR D cy g base G r.2 H1 → zLo base locs1 → W p l e R s m args below meth c H1 locs1 (cells + mc) (slots + ms) Q (F0 m (pc + 3) ls ((r.1.map (ztr (zad g base))).toList ++ rest))) : W p l e R s m args below meth c H locs cells slots Q (F0 m pc ls st0) := by
  intro T hT X
  obtain ⟨v, st₀, t, T', L, h0, X', hL, e1, e2, ⟨hv, hz⟩, st⟩ := hr T hT X
  cases hv
  obtain ⟨t2, a1, b1⟩ := kk T'.heap (locs ++ L) (by rw [e1]; exact hz) (fun q hq => by
    rcases List.mem_append.mp hq with h | h
    · exact hLo q h
    · exact hL q h) T' rfl X'
  exact ⟨t2, st t2 a1, b1⟩
theorem zopt_list (ad : Nat → Nat) (o : Option Value) (r : List Value) : (o.toList ++ r).map (ztr ad) = (o.map (ztr ad)).toList ++ r.map (ztr ad) := by cases o <;> rfl
theorem zinv_sim {d : Nat} {call : Nat → List Value → zM → Option zRes} (hx : p.tables.exec = Jvm.exec) (hb : c.code = cc) (hml : c.maxLocals = ls.size) (hts : ∀ w ∈ zW, w.before args s = true) (hown : s.vm.findClass (zcn own) = some m.cls) (hK : zKn D cy g base G X s) (hcall : zCallOK l D cy g base G X d call) (hstr : zStrOK l D cy g base G X) (hfr : d + 1 ≤ R.frames) (hlo : 40 * (d + 1) ≤ R.locals) (hR : zR D cy g base G M H) (hLo : zLo base locs) {i : Instr} {st st' : List Value} (hd : decode cc pc = .ok (i, 3)) (h : zinv own call i st M = some (st', M')) (hc : cells + M'.length ≤ R.cells + M.length) (hs : slots + zsl M' ≤ R.slots + zsl M) (hc0 : cells ≤ R.cells) (hs0 : slots ≤ R.slots)
    (kk : ∀ H' locs' cells' slots', zR D cy g base G M' H' → zLo base locs' → cells' + M.length = cells + M'.length → slots' + zsl M = slots + zsl M' → W p l e R s m args below meth c H' locs' cells' slots' Q (F0 m (pc + 3) ls (st'.map (ztr (zad g base))))) : W p l e R s m args below meth c H locs cells slots Q (F0 m pc ls (st.map (ztr (zad g base)))) := by
  have hW : ∀ {r : List Value}, zcat r ≤ 8 → 2 * (F0 m pc ls (st.map (ztr (zad g base)))).monitorRoom + ((r.map (ztr (zad g base))).map fun v => v.category).sum ≤ 8 := fun h => by rw [zcat_tr]; show 2 * 0 + _ ≤ _; omega
  have hlen : ∀ {na : Nat}, na ≤ st.length → ((st.take na).reverse.map (ztr (zad g base))).length = na := fun h => by simp [h]
  have hstk : ∀ {na : Nat} {w : List Value}, st.drop na = w → st.map (ztr (zad g base)) = ((st.take na).reverse.map (ztr (zad g base))).reverse ++ w.map (ztr (zad g base)) := fun {na w} h => by
    rw [← h, List.map_reverse, List.reverse_reverse, ← List.map_append, List.take_append_drop]
  have hpre : ∀ (vs : List Value) (U : State), U.heap = H → s.WarmedH U.vm → zPc D cy g base G X vs M (vs.map (ztr (zad g base))).toArray U := fun vs U hU hWm => ⟨rfl, by rw [hU]; exact hR, hK.warm hWm⟩
  unfold zinv at h
  split at h
  · -- invokevirtual
    split at h
    · rename_i j hcl
      obtain ⟨ci, na, y, c2, ml, ret, pos, hz, hci, w1, w2, w3, w4⟩ := zcall_0 hcl
      rw [hz] at h
      dsimp only at h
      obtain ⟨q1, q2, q3, q4, q5, q6, q7⟩ := zmt_ok hz
      split at h
      · rename_i a r hdr
        split at h
        · rename_i vs ha
          split at h
          · rename_i hq
            rw [Option.map_eq_some_iff] at h
            obtain ⟨⟨v, M1⟩, hcv, hq2⟩ := h
            cases hq2
            obtain ⟨hM, -, hl1, hl2⟩ := hcall _ _ _ _ hcv
            dsimp only at hl1 hl2 hc hs kk
            have hM := hM _ _ _ _ _ _ _ hz
            unfold zMet at hM
            obtain ⟨hin, hty, hnm, hcc, -⟩ := zcls_ok hci
            obtain ⟨cellB, b1, b2, b3, -⟩ := hR.obj ha hci
            refine zcall_go (va_runV (As := (st.take na).reverse.map (ztr (zad g base))) (rest := r.map (ztr (zad g base))) ⟨hx, hb, hml, hown, hts⟩ hM (cwV (C := zcn ci) na hts (zGood (fun w hw => ?_)) rfl rfl rfl ⟨q2, q4.1, q4.2, q5⟩ ⟨?_, ?_⟩) ⟨zBlind, ⟨cellB, b1, by rw [b3]; rfl, by rw [b2]; exact (hK.1.1 ci _ hcc).2.1⟩, fun U hU hWm => hpre _ U hU hWm⟩ rfl (hlen hq.1) rfl ?_ (hW hq.2) hd ⟨?_, ?_⟩) hLo (fun H1 locs1 g1 g2 => ?_)
            · unfold wsV at hw
              rcases List.mem_append.mp hw with h1 | h1
              · simp only [List.mem_cons, List.not_mem_nil, or_false] at h1
                rcases h1 with rfl | rfl | rfl | rfl
                · exact w1
                · exact w2
                · exact w3
                · exact w4
              · exact zGoodM q7 w h1
            · exact hfr
            · show 8 + (ml + 11) + 40 * d ≤ _; omega
            · exact hstk hdr
            · show cells + (M1.length - M.length) ≤ _; omega
            · show slots + (zsl M1 - zsl M) ≤ _; omega
            · have := kk H1 locs1 _ _ g1 g2 (by show cells + (M1.length - M.length) + M.length = _; omega) (by show slots + (zsl M1 - zsl M) + zsl M = _; omega)
              rw [zopt_list] at this
              exact this
          · cases h
        · cases h
      · cases h
    · -- length
      rename_i j hcl
      obtain ⟨w1, w2, w3, w4⟩ := zcall_8 hcl
      split at h
      · rename_i a r
        split at h
        · rename_i hq
          rw [Option.map_eq_some_iff] at h
          obtain ⟨⟨v, M1⟩, hcv, hq2⟩ := h
          cases hq2
          obtain ⟨-, hM, hl1, hl2⟩ := hcall _ _ _ _ hcv
          dsimp only at hl1 hl2 hc hs kk
          obtain ⟨hM, h4⟩ := hM rfl
          have hM := hstr _ _ _ _ hM
          unfold zMet at hM
          obtain ⟨k, hk, ea⟩ : ∃ k, k < 2 ∧ zad g base a = g (1 + k) := by
            rcases hq.1 with rfl | rfl
            · exact ⟨0, by omega, zad_big g base 1⟩
            · exact ⟨1, by omega, zad_big g base 2⟩
          obtain ⟨cellB, b1, b2, b3, -⟩ := ((hK.2.2.2.2.2.1.1 k hk).1.kept (H1 := H) (fun q _ hn => hR.2.2.1 q (Nat.not_le.mp hn)))
          refine zcall_go (va_runV (As := []) (rest := r.map (ztr (zad g base))) ⟨hx, hb, hml, hown, hts⟩ hM (cwV (C := RJ0) 0 hts (zGood (fun w hw => ?_)) rfl rfl rfl ⟨rfl, by decide +kernel, by decide +kernel, by decide +kernel⟩ ⟨?_, ?_⟩) ⟨zBlind, ⟨cellB, by rw [ea]; exact b1, b2, b3⟩, fun U hU hWm => hpre [.ref a] U hU hWm⟩ rfl rfl rfl rfl (hW hq.2) hd ⟨?_, ?_⟩) hLo (fun H1 locs1 g1 g2 => ?_)
          · unfold wsV at hw
            rcases List.mem_append.mp hw with h1 | h1
            · simp only [List.mem_cons, List.not_mem_nil, or_false] at h1
              rcases h1 with rfl | rfl | rfl | rfl
              · exact w1
              · exact w2
              · exact w3
              · exact w4
            · exact zGoodM zsy0 w h1
          · show 4 + 1 ≤ _; omega
          · show 8 + (1 + 11) + 40 * 4 ≤ _; omega
          · show cells + (M1.length - M.length) ≤ _; omega
          · show slots + (zsl M1 - zsl M) ≤ _; omega
          · have := kk H1 locs1 _ _ g1 g2 (by show cells + (M1.length - M.length) + M.length = _; omega) (by show slots + (zsl M1 - zsl M) + zsl M = _; omega)
            rw [zopt_list] at this
            exact this
        · cases h
      · cases h
    · -- charAt
      rename_i j hcl
      obtain ⟨w1, w2, w3, w4⟩ := zcall_9 hcl
      split at h
      · rename_i i0 a r
        split at h
        · rename_i hq
          rw [Option.map_eq_some_iff] at h
          obtain ⟨⟨v, M1⟩, hcv, hq2⟩ := h
          cases hq2
          obtain ⟨-, hM, hl1, hl2⟩ := hcall _ _ _ _ hcv
          dsimp only at hl1 hl2 hc hs kk
          obtain ⟨hM, h4⟩ := hM rfl
          have hM := hstr _ _ _ _ hM
          unfold zMet at hM
          obtain ⟨k, hk, ea⟩ : ∃ k, k < 2 ∧ zad g base a = g (1 + k) := by
            rcases hq.1 with rfl | rfl
            · exact ⟨0, by omega, zad_big g base 1⟩
            · exact ⟨1, by omega, zad_big g base 2⟩
          obtain ⟨cellB, b1, b2, b3, -⟩ := ((hK.2.2.2.2.2.1.1 k hk).1.kept (H1 := H) (fun q _ hn => hR.2.2.1 q (Nat.not_le.mp hn)))
          refine zcall_go (va_runV (As := [.int i0]) (rest := r.map (ztr (zad g base))) ⟨hx, hb, hml, hown, hts⟩ hM (cwV (C := RJ0) 1 hts (zGood (fun w hw => ?_)) rfl rfl rfl ⟨rfl, by decide +kernel, by decide +kernel, by decide +kernel⟩ ⟨?_, ?_⟩) ⟨zBlind, ⟨cellB, by rw [ea]; exact b1, b2, b3⟩, fun U hU hWm => hpre [.ref a, .int i0] U hU hWm⟩ rfl rfl rfl rfl (hW hq.2) hd ⟨?_, ?_⟩) hLo (fun H1 locs1 g1 g2 => ?_)
          · unfold wsV at hw
            rcases List.mem_append.mp hw with h1 | h1
            · simp only [List.mem_cons, List.not_mem_nil, or_false] at h1
              rcases h1 with rfl | rfl | rfl | rfl
              · exact w1
              · exact w2
              · exact w3
              · exact w4
            · exact zGoodM zsy1 w h1
          · show 4 + 1 ≤ _; omega
          · show 8 + (2 + 11) + 40 * 4 ≤ _; omega
          · show cells + (M1.length - M.length) ≤ _; omega
          · show slots + (zsl M1 - zsl M) ≤ _; omega
          · have := kk H1 locs1 _ _ g1 g2 (by show cells + (M1.length - M.length) + M.length = _; omega) (by show slots + (zsl M1 - zsl M) + zsl M = _; omega)
            rw [zopt_list] at this
            exact this
        · cases h
      · cases h
    · -- indexOf
      rename_i j hcl
      obtain ⟨w1, w2, w3, w4⟩ := zcall_10 hcl
      split at h
      · rename_i i0 a r
        split at h
        · rename_i hq
          rw [Option.map_eq_some_iff] at h
          obtain ⟨⟨v, M1⟩, hcv, hq2⟩ := h
          cases hq2
          obtain ⟨-, hM, hl1, hl2⟩ := hcall _ _ _ _ hcv
          dsimp only at hl1 hl2 hc hs kk
          obtain ⟨hM, h4⟩ := hM rfl
          have hM := hstr _ _ _ _ hM
          unfold zMet at hM
          obtain ⟨k, hk, ea⟩ : ∃ k, k < 2 ∧ zad g base a = g (1 + k) := by
            rcases hq.1 with rfl | rfl
            · exact ⟨0, by omega, zad_big g base 1⟩
            · exact ⟨1, by omega, zad_big g base 2⟩
          obtain ⟨cellB, b1, b2, b3, -⟩ := ((hK.2.2.2.2.2.1.1 k hk).1.kept (H1 := H) (fun q _ hn => hR.2.2.1 q (Nat.not_le.mp hn)))
          refine zcall_go (va_runV (As := [.int i0]) (rest := r.map (ztr (zad g base))) ⟨hx, hb, hml, hown, hts⟩ hM (cwV (C := RJ0) 1 hts (zGood (fun w hw => ?_)) rfl rfl rfl ⟨rfl, by decide +kernel, by decide +kernel, by decide +kernel⟩ ⟨?_, ?_⟩) ⟨zBlind, ⟨cellB, by rw [ea]; exact b1, b2, b3⟩, fun U hU hWm => hpre [.ref a, .int i0] U hU hWm⟩ rfl rfl rfl rfl (hW hq.2) hd ⟨?_, ?_⟩) hLo (fun H1 locs1 g1 g2 => ?_)
          · unfold wsV at hw
            rcases List.mem_append.mp hw with h1 | h1
            · simp only [List.mem_cons, List.not_mem_nil, or_false] at h1
              rcases h1 with rfl | rfl | rfl | rfl
              · exact w1
              · exact w2
              · exact w3
              · exact w4
            · exact zGoodM zsy2 w h1
          · show 4 + 1 ≤ _; omega
          · show 8 + (2 + 11) + 40 * 4 ≤ _; omega
          · show cells + (M1.length - M.length) ≤ _; omega
          · show slots + (zsl M1 - zsl M) ≤ _; omega
          · have := kk H1 locs1 _ _ g1 g2 (by show cells + (M1.length - M.length) + M.length = _; omega) (by show slots + (zsl M1 - zsl M) + zsl M = _; omega)
            rw [zopt_list] at this
            exact this
        · cases h
      · cases h
    · cases h
  · -- invokestatic
    split at h
    · rename_i j hcl
      obtain ⟨ci, na, y, c2, ml, ret, pos, hz, w1, w2, w3⟩ := zcall_1 hcl
      rw [hz] at h
      dsimp only at h
      obtain ⟨q1, q2, q3, q4, q5, q6, q7⟩ := zmt_ok hz
      split at h
      · rename_i hq
        rw [Option.map_eq_some_iff] at h
        obtain ⟨⟨v, M1⟩, hcv, hq2⟩ := h
        cases hq2
        obtain ⟨hM, -, hl1, hl2⟩ := hcall _ _ _ _ hcv
        dsimp only at hl1 hl2 hc hs kk
        have hM := hM _ _ _ _ _ _ _ hz
        unfold zMet at hM
        refine zcall_go (va_runS (As := (st.take na).reverse.map (ztr (zad g base))) (rest := (st.drop na).map (ztr (zad g base))) ⟨hx, hb, hml, hown, hts⟩ hM (va_cwS na hts (zGood (fun w hw => ?_)) rfl rfl rfl ⟨q4.1, q4.2, q5⟩ ⟨?_, ?_⟩) ⟨zBlind, fun U hU hWm => hpre _ U hU hWm⟩ rfl (hlen hq.1) rfl ?_ (hW hq.2) hd ⟨?_, ?_⟩) hLo (fun H1 locs1 g1 g2 => ?_)
        · unfold va_wsS at hw
          rcases List.mem_append.mp hw with h1 | h1
          · simp only [List.mem_cons, List.not_mem_nil, or_false] at h1
            rcases h1 with rfl | rfl | rfl
            · exact w1
            · exact w2
            · exact w3
          · exact zGoodM q7 w h1
        · exact hfr
        · show 8 + (ml + 11) + 40 * d ≤ _; omega
        · exact hstk rfl
        · show cells + (M1.length - M.length) ≤ _; omega
        · show slots + (zsl M1 - zsl M) ≤ _; omega
        · have := kk H1 locs1 _ _ g1 g2 (by show cells + (M1.length - M.length) + M.length = _; omega) (by show slots + (zsl M1 - zsl M) + zsl M = _; omega)
          rw [zopt_list] at this
          exact this
      · cases h
    · rename_i j hcl
      obtain ⟨w1, w2, w3, w4⟩ := zcall_5 hcl
      split at h
      · split at h
        · rename_i hq
          cases h
          exact va_mmax hx hb hml hown (hts _ w1) (hts _ w2) (hts _ w3) (hts _ w4) (by omega) (by rw [zcat_tr]; omega) hc0 hs0 hd (kk H locs cells slots hR hLo rfl rfl)
        · cases h
      · cases h
    · rename_i j hcl
      obtain ⟨w1, w2, w3, w4⟩ := zcall_6 hcl
      split at h
      · split at h
        · rename_i hq
          cases h
          exact va_mmin hx hb hml hown (hts _ w1) (hts _ w2) (hts _ w3) (hts _ w4) (by omega) (by rw [zcat_tr]; omega) hc0 hs0 hd (kk H locs cells slots hR hLo rfl rfl)
        · cases h
      · cases h
    · rename_i j hcl
      obtain ⟨w1, w2, w3, w4⟩ := zcall_7 hcl
      exact zacpy_sim hx hb hml hown (hts _ w1) (hts _ w2) (hts _ w3) (hts _ w4) hK hR hLo (by omega) (by omega) hd h kk
    · cases h
  · -- invokespecial
    split at h
    · rename_i j hcl
      obtain ⟨ci, na, y, c2, ml, pos, hz, w1, w2, w3, w4⟩ := zcall_2 hcl
      rw [hz] at h
      dsimp only at h
      obtain ⟨q1, q2, q3, q4, q5, q6, q7⟩ := zmt_ok hz
      split at h
      · rename_i a r hdr
        split at h
        · rename_i hq
          rw [Option.map_eq_some_iff] at h
          obtain ⟨⟨v, M1⟩, hcv, hq2⟩ := h
          cases hq2
          obtain ⟨hM, -, hl1, hl2⟩ := hcall _ _ _ _ hcv
          dsimp only at hl1 hl2 hc hs kk
          have hM := hM _ _ _ _ _ _ _ hz
          unfold zMet at hM
          refine zcall_go (va_runI (As := (st.take na).reverse.map (ztr (zad g base))) (rest := r.map (ztr (zad g base))) ⟨hx, hb, hml, hown, hts⟩ hM (cwI na hts (zGood (zGoodM q7)) rfl rfl rfl (hts _ w3) (hts _ w1) (hts _ w2) w4 ⟨q4.1, q4.2, q5⟩ ⟨?_, ?_⟩) ⟨zBlind, fun U hU hWm => hpre _ U hU hWm⟩ rfl (hlen hq.1) rfl ?_ (hW hq.2) hd ⟨?_, ?_⟩) hLo (fun H1 locs1 g1 g2 => ?_)
          · exact hfr
          · show 8 + (ml + 11) + 40 * d ≤ _; omega
          · exact hstk hdr
          · show cells + (M1.length - M.length) ≤ _; omega
          · show slots + (zsl M1 - zsl M) ≤ _; omega
          · have := kk H1 locs1 _ _ g1 g2 (by show cells + (M1.length - M.length) + M.length = _; omega) (by show slots + (zsl M1 - zsl M) + zsl M = _; omega)
            rw [zopt_list] at this
            exact this
        · cases h
      · cases h
    · rename_i j hcl
      obtain ⟨ci, na, y, c2, ml, pos, hz, w1, w2, w3, w4⟩ := zcall_3 hcl
      rw [hz] at h
      dsimp only at h
      obtain ⟨q1, q2, q3, q4, q5, q6, q7⟩ := zmt_ok hz
      split at h
      · rename_i a r hdr
        split at h
        · rename_i hq
          rw [Option.map_eq_some_iff] at h
          obtain ⟨⟨v, M1⟩, hcv, hq2⟩ := h
          cases hq2
          obtain ⟨hM, -, hl1, hl2⟩ := hcall _ _ _ _ hcv
          dsimp only at hl1 hl2 hc hs kk
          have hM := hM _ _ _ _ _ _ _ hz
          unfold zMet at hM
          refine zcall_go (va_runIN (As := (st.take na).reverse.map (ztr (zad g base))) (rest := r.map (ztr (zad g base))) ⟨hx, hb, hml, hown, hts⟩ hM ⟨va_cnB na hts (zGood (zGoodM q7)) rfl rfl rfl (hK.2.2.2.1 _ w1 rfl) (hts _ w3) ⟨q4.1, q4.2, q5⟩ ⟨?_, ?_⟩, w4, hts _ w2⟩ ⟨zBlind, fun U hU hWm => hpre _ U hU hWm⟩ rfl (hlen hq.1) rfl ?_ (hW hq.2) hd ⟨?_, ?_⟩) hLo (fun H1 locs1 g1 g2 => ?_)
          · exact hfr
          · show 8 + (ml + 11) + 40 * d ≤ _; omega
          · exact hstk hdr
          · show cells + (M1.length - M.length) ≤ _; omega
          · show slots + (zsl M1 - zsl M) ≤ _; omega
          · have := kk H1 locs1 _ _ g1 g2 (by show cells + (M1.length - M.length) + M.length = _; omega) (by show slots + (zsl M1 - zsl M) + zsl M = _; omega)
            rw [zopt_list] at this
            exact this
        · cases h
      · cases h
    · rename_i j hcl
      obtain ⟨w1, w2, w3⟩ := zcall_4 hcl
      split at h
      · split at h
        · rename_i hq
          cases h
          exact W.objInit hx hb hown (hts _ w1) (hts _ w2) (hts _ w3) rfl hml.symm rfl hd (by omega) (by rw [zcat_tr]; show 2 * 0 + _ + 12 ≤ _; omega) (kk H locs cells slots hR hLo rfl rfl)
        · cases h
      · cases h
    · cases h
  · cases h
end ZC
