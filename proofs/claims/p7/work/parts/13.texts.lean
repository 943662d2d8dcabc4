/-! the members of the two texts: length, charAt, indexOf (laid by wip/whole/mk13.py) -/
theorem zSt.kept {g : Nat → Nat} {base : Nat} {G H : Heap} {U : State} (h : zSt g base G U) (hq : ∀ q : Nat, q < base → H[q]? = G[q]?) : zSt g base H U := by
  have h1 : ∀ a : Nat, a < G.size → ¬ (fun q : Nat => base ≤ q) a → H[a]? = G[a]? := fun a _ hn => hq a (Nat.not_le.mp hn)
  exact ⟨h.1, h.2.1.kept h1, h.2.2.1, h.2.2.2.1.kept h1, h.2.2.2.2.1.kept h1, h.2.2.2.2.2⟩
def zKc (g : Nat → Nat) (base : Nat) (av : List Value) : Array Value → State → Prop := va_Pc av (fun U => zSt g base U.heap U)
def zKq (r : Option Value) : Array Value → State → Outcome → State → Prop := fun _ st o t => o = .returned r ∧ t.heap = st.heap
theorem zKb {g : Nat → Nat} {base : Nat} {av : List Value} : FrameBlind (zKc g base av) := fun a U f mk h => ⟨h.1, zSt.same (u := U) (U := U.calling f mk a) rfl h.2⟩
theorem zw_at (w : Jvm.Cond) (pos : Nat) (h : zhas pos w = true) : w ∈ zW := zhas_in h
section ZK
variable {p : Program} {l : Launch} {e : Env} {R : Room} {s : State} {m : MethodId} {args : Array Value} {below : List Frame} {meth : Method} {c : Code} {H : Heap} {locs : List Loc} {cells slots : Nat} {Q : State → Prop} {pc : Nat} {ls : Array Slot}
theorem zk_go {r : Option Value} {a : Array Value} {st0 rest : List Value} (hr : va_Run p l e R s m args below meth c H locs cells slots 0 0 (F0 m pc ls st0) rest (zKq r a) (fun _ => False))
    (kk : W p l e R s m args below meth c H locs cells slots Q (F0 m (pc + 3) ls (r.toList ++ rest))) : W p l e R s m args below meth c H locs cells slots Q (F0 m pc ls st0) := by
  intro T hT X
  obtain ⟨v, st₀, t, T', L, h0, X', hL, e1, e2, ⟨hv, hz⟩, st⟩ := hr T hT X
  cases hv
  have hn : L = [] := by
    cases L with
    | nil => rfl
    | cons q L => exact (hL q List.mem_cons_self).elim
  subst hn
  rw [List.append_nil] at X'
  obtain ⟨t2, a1, b1⟩ := kk T' (by rw [e1, hz, h0]) X'
  exact ⟨t2, st t2 a1, b1⟩
end ZK
theorem zs_all : ∀ k, k < 2 → (∀ b ∈ ztx k, b < 128) ∧ (ztx k).length < 200 ∧ zlen.getD k 0 = (ztx k).length ∧ zbyt.getD k [] = (ztx k).map nI := by decide +kernel
theorem zs_c128 : ∀ b, b < 128 → nI b &&& 255 = nI b ∧ ((nI b).toUInt32 % 65536).toInt32 = nI b ∧ narrow .char (.int (nI b)) = .int (nI b) ∧ (nI b).toInt8.toInt32 = nI b := by decide +kernel
theorem zs_byte {k : Nat} (hk : k < 2) {i : Int32} (hi : ¬ (i < 0 ∨ zlen.getD k 0 ≤ i.toNatClampNeg)) : i < nI (zlen.getD k 0) ∧ (zbyt.getD k []).getD i.toNatClampNeg 0 = nI ((ztx k).getD i.toNatClampNeg 0) ∧ nI ((ztx k).getD i.toNatClampNeg 0) &&& 255 = nI ((ztx k).getD i.toNatClampNeg 0) ∧ ((nI ((ztx k).getD i.toNatClampNeg 0)).toUInt32 % 65536).toInt32 = nI ((ztx k).getD i.toNatClampNeg 0) ∧ narrow .char (.int (nI ((ztx k).getD i.toNatClampNeg 0))) = .int (nI ((ztx k).getD i.toNatClampNeg 0)) := by
  obtain ⟨h1, h2, h3, h4⟩ := zs_all k hk
  rw [h3] at hi ⊢
  have hlt : i.toNatClampNeg < (ztx k).length := Nat.not_le.mp fun z => hi (Or.inr z)
  have hm : (ztx k).getD i.toNatClampNeg 0 ∈ ztx k := by
    rw [List.getD_eq_getElem?_getD, List.getElem?_eq_getElem hlt]
    exact List.getElem_mem hlt
  obtain ⟨c1, c2, c3, -⟩ := zs_c128 _ (h1 _ hm)
  refine ⟨?_, ?_, c1, c2, c3⟩
  · obtain ⟨j, hj, rfl⟩ := nI_of (fun q => hi (Or.inl q))
    rw [nI_clamp hj] at hlt
    exact nI_lt hlt (by omega)
  · rw [h4, List.getD_eq_getElem?_getD, List.getElem?_map, List.getD_eq_getElem?_getD, List.getElem?_eq_getElem hlt]
    rfl
set_option maxRecDepth 100000 in
theorem zs_coder (l : Launch) (n : Nat) {g : Nat → Nat} {base : Nat} {k : Nat} (hk : k < 2) : Met l yJ0_coder_7d493 (zws yJ0_coder_7d493 cJ0_coder_7d493 1 (some .byte)) (zroom (n + 0) 0 0) (zKc g base [.ref (g (1 + k))]) (zKq (some (.int 0))) 0 0 (fun _ => False) := by
  refine Met.ofW (cc := cJ0_coder_7d493) (maxL := 1) (ret := (some .byte)) (by decide +kernel) rfl ?_
  intro p e s m args below meth co s₁ B hml hv
  obtain ⟨rfl, hST⟩ := hv
  have hx := B.exec
  have hb := B.bytes
  have hr := B.returns
  have hts0 := atoms_spec (ws := zws yJ0_coder_7d493 cJ0_coder_7d493 1 (some .byte)) B.pre
  have hts : ∀ w ∈ zW, w.before ([.ref (g (1 + k))] : List Value).toArray s = true := fun w hw => hts0 w (List.mem_cons_of_mem _ hw)
  have hown : s.vm.findClass RJ0 = some m.cls := findClass_of_methodNamed B.named
  have hlocks := B.notSynchronized
  have hS : va_S (fun q : Nat => base ≤ q) s.heap s.heap [] := va_S.rf
  have hpre : ∀ (vs : List Value) (U : State), U.heap = s.heap → s.WarmedH U.vm → zKc g base vs vs.toArray U := fun vs U hU hWm => ⟨rfl, by show zSt g base U.heap U; rw [hU]; exact hST.warm hWm⟩
  rw [lg_entry_eq]
  have hl := lv_entry ([.ref (g (1 + k))] : List Value) (n := 1) (Nat.le_of_ble_eq_true rfl)
  generalize (lg_sl ([.ref (g (1 + k))] : List Value) ++ List.replicate (1 - (lg_sl ([.ref (g (1 + k))] : List Value)).length) Slot.unset).toArray = ls at hl ⊢
  have hl : lv_has ls 1 [(0, .ref (g (1 + k)))] := hl
  refine va_gets (ref := "java/lang/String") hx hb hST.2.2.2.1 hS hown (hts _ (zw_at (.fieldLink RJ0 38 "java/lang/String" "COMPACT_STRINGS" "Z") 309 (by decide +kernel))) (fun _ h => h) (show decode cJ0_coder_7d493 0 = .ok (.getstatic 38, 3) by decide +kernel) ?_
  refine lv_if_eq (tgt := 13) hx hb (show decode cJ0_coder_7d493 3 = .ok (.ifCond .eq 10, 3) by decide +kernel) (by decide) (fun c9 => absurd c9 (by decide)) (fun c9 => ?_)
  refine lv_aload_n hx hb (show decode cJ0_coder_7d493 6 = .ok (.aload_n 0, 1) by decide +kernel) rfl (lv_at hl 0 rfl) ?_
  refine vk_getf hx hb ((hST.2.1.1 k hk).2.1) hS hown (hts _ (zw_at (.fieldLink RJ0 15 "java/lang/String" "coder" "B") 2022 (by decide +kernel))) (fun _ h => h) (show decode cJ0_coder_7d493 7 = .ok (.getfield 15, 3) by decide +kernel) ?_
  refine lv_goto (tgt := 14) hx hb (show decode cJ0_coder_7d493 10 = .ok (.goto 4, 3) by decide +kernel) (by decide) ?_
  exact W.zret (v := 0) hx hb hr (rfl) (fun t ht _ => ⟨rfl, ht⟩) (fun q hq => by cases hq) (show decode cJ0_coder_7d493 14 = .ok (.ireturn, 1) by decide +kernel)
set_option maxRecDepth 100000 in
theorem zs_lat (l : Launch) (n : Nat) {g : Nat → Nat} {base : Nat} {k : Nat} (hk : k < 2) : Met l yJ0_isLatin1_aae02 (zws yJ0_isLatin1_aae02 cJ0_isLatin1_aae02 1 (some .boolean)) (zroom (n + 0) 0 0) (zKc g base [.ref (g (1 + k))]) (zKq (some (.int 1))) 0 0 (fun _ => False) := by
  refine Met.ofW (cc := cJ0_isLatin1_aae02) (maxL := 1) (ret := (some .boolean)) (by decide +kernel) rfl ?_
  intro p e s m args below meth co s₁ B hml hv
  obtain ⟨rfl, hST⟩ := hv
  have hx := B.exec
  have hb := B.bytes
  have hr := B.returns
  have hts0 := atoms_spec (ws := zws yJ0_isLatin1_aae02 cJ0_isLatin1_aae02 1 (some .boolean)) B.pre
  have hts : ∀ w ∈ zW, w.before ([.ref (g (1 + k))] : List Value).toArray s = true := fun w hw => hts0 w (List.mem_cons_of_mem _ hw)
  have hown : s.vm.findClass RJ0 = some m.cls := findClass_of_methodNamed B.named
  have hlocks := B.notSynchronized
  have hS : va_S (fun q : Nat => base ≤ q) s.heap s.heap [] := va_S.rf
  have hpre : ∀ (vs : List Value) (U : State), U.heap = s.heap → s.WarmedH U.vm → zKc g base vs vs.toArray U := fun vs U hU hWm => ⟨rfl, by show zSt g base U.heap U; rw [hU]; exact hST.warm hWm⟩
  rw [lg_entry_eq]
  have hl := lv_entry ([.ref (g (1 + k))] : List Value) (n := 1) (Nat.le_of_ble_eq_true rfl)
  generalize (lg_sl ([.ref (g (1 + k))] : List Value) ++ List.replicate (1 - (lg_sl ([.ref (g (1 + k))] : List Value)).length) Slot.unset).toArray = ls at hl ⊢
  have hl : lv_has ls 1 [(0, .ref (g (1 + k)))] := hl
  refine va_gets (ref := "java/lang/String") hx hb hST.2.2.2.1 hS hown (hts _ (zw_at (.fieldLink RJ0 38 "java/lang/String" "COMPACT_STRINGS" "Z") 309 (by decide +kernel))) (fun _ h => h) (show decode cJ0_isLatin1_aae02 0 = .ok (.getstatic 38, 3) by decide +kernel) ?_
  refine lv_if_eq (tgt := 17) hx hb (show decode cJ0_isLatin1_aae02 3 = .ok (.ifCond .eq 14, 3) by decide +kernel) (by decide) (fun c9 => absurd c9 (by decide)) (fun c9 => ?_)
  refine lv_aload_n hx hb (show decode cJ0_isLatin1_aae02 6 = .ok (.aload_n 0, 1) by decide +kernel) rfl (lv_at hl 0 rfl) ?_
  refine vk_getf hx hb ((hST.2.1.1 k hk).2.1) hS hown (hts _ (zw_at (.fieldLink RJ0 15 "java/lang/String" "coder" "B") 2022 (by decide +kernel))) (fun _ h => h) (show decode cJ0_isLatin1_aae02 7 = .ok (.getfield 15, 3) by decide +kernel) ?_
  refine lv_if_ne (tgt := 17) hx hb (show decode cJ0_isLatin1_aae02 10 = .ok (.ifCond .ne 7, 3) by decide +kernel) (by decide) (fun c9 => absurd rfl c9) (fun c9 => ?_)
  refine lv_iconst (v := 1) hx hb (show decode cJ0_isLatin1_aae02 13 = .ok (.iconst 1, 1) by decide +kernel) (by decide) ?_
  refine lv_goto (tgt := 18) hx hb (show decode cJ0_isLatin1_aae02 14 = .ok (.goto 4, 3) by decide +kernel) (by decide) ?_
  exact W.zret (v := 1) hx hb hr (rfl) (fun t ht _ => ⟨rfl, ht⟩) (fun q hq => by cases hq) (show decode cJ0_isLatin1_aae02 18 = .ok (.ireturn, 1) by decide +kernel)
set_option maxRecDepth 100000 in
theorem zs_length (l : Launch) (n : Nat) {g : Nat → Nat} {base : Nat} {k : Nat} (hk : k < 2) : Met l yJ0_length_8abf5 (zws yJ0_length_8abf5 cJ0_length_8abf5 1 (some .int)) (zroom (n + 1) 0 0) (zKc g base [.ref (g (1 + k))]) (zKq (some (.int (nI (zlen.getD k 0))))) 0 0 (fun _ => False) := by
  refine Met.ofW (cc := cJ0_length_8abf5) (maxL := 1) (ret := (some .int)) (by decide +kernel) rfl ?_
  intro p e s m args below meth co s₁ B hml hv
  obtain ⟨rfl, hST⟩ := hv
  have hx := B.exec
  have hb := B.bytes
  have hr := B.returns
  have hts0 := atoms_spec (ws := zws yJ0_length_8abf5 cJ0_length_8abf5 1 (some .int)) B.pre
  have hts : ∀ w ∈ zW, w.before ([.ref (g (1 + k))] : List Value).toArray s = true := fun w hw => hts0 w (List.mem_cons_of_mem _ hw)
  have hown : s.vm.findClass RJ0 = some m.cls := findClass_of_methodNamed B.named
  have hlocks := B.notSynchronized
  have hS : va_S (fun q : Nat => base ≤ q) s.heap s.heap [] := va_S.rf
  have hpre : ∀ (vs : List Value) (U : State), U.heap = s.heap → s.WarmedH U.vm → zKc g base vs vs.toArray U := fun vs U hU hWm => ⟨rfl, by show zSt g base U.heap U; rw [hU]; exact hST.warm hWm⟩
  rw [lg_entry_eq]
  have hl := lv_entry ([.ref (g (1 + k))] : List Value) (n := 1) (Nat.le_of_ble_eq_true rfl)
  generalize (lg_sl ([.ref (g (1 + k))] : List Value) ++ List.replicate (1 - (lg_sl ([.ref (g (1 + k))] : List Value)).length) Slot.unset).toArray = ls at hl ⊢
  have hl : lv_has ls 1 [(0, .ref (g (1 + k)))] := hl
  refine lv_aload_n hx hb (show decode cJ0_length_8abf5 0 = .ok (.aload_n 0, 1) by decide +kernel) rfl (lv_at hl 0 rfl) ?_
  refine vk_getf hx hb ((hST.2.1.1 k hk).2.2.1) hS hown (hts _ (zw_at (.fieldLink RJ0 9 "java/lang/String" "value" "[B") 2021 (by decide +kernel))) (fun _ h => h) (show decode cJ0_length_8abf5 1 = .ok (.getfield 9, 3) by decide +kernel) ?_
  refine va_tlen (v := nI (zlen.getD k 0)) hx hb ((hST.2.1.1 k hk).2.2.2) hS rfl (show decode cJ0_length_8abf5 4 = .ok (.arraylength, 1) by decide +kernel) ?_
  refine lv_aload_n hx hb (show decode cJ0_length_8abf5 5 = .ok (.aload_n 0, 1) by decide +kernel) rfl (lv_at hl 0 rfl) ?_
  have hG : ∀ w ∈ wsV RJ0 335 RJ0 yJ0_coder_7d493 (zws yJ0_coder_7d493 cJ0_coder_7d493 1 (some .byte)), w ∈ zW := by
    intro w hw
    unfold wsV at hw
    rcases List.mem_append.mp hw with h1 | h1
    · simp only [List.mem_cons, List.not_mem_nil, or_false] at h1
      rcases h1 with rfl | rfl | rfl | rfl
      · exact zw_at _ 305 (by decide +kernel)
      · exact zw_at _ 306 (by decide +kernel)
      · exact zw_at _ 307 (by decide +kernel)
      · exact zw_at _ 130 (by decide +kernel)
    · exact zGoodM (zw_at _ 308 (by decide +kernel)) w h1
  refine zk_go (va_runV (As := []) (rest := [.int (nI (zlen.getD k 0))]) ⟨hx, hb, hml, hown, hts⟩ (zs_coder l n hk) (cwV (C := RJ0) 0 hts (zGood hG) rfl rfl rfl ⟨rfl, by decide +kernel, by decide +kernel, by decide +kernel⟩ ⟨by show n + 0 + 1 ≤ n + 1; omega, by show 8 + (1 + 11) + 40 * (n + 0) ≤ 40 * (n + 1); omega⟩) ⟨zKb, (by obtain ⟨cellB, b1, b2, b3, -⟩ := (hST.2.1.1 k hk).1; exact ⟨cellB, b1, b2, b3⟩), fun U hU hWm => hpre _ U hU hWm⟩ rfl rfl hl.1 rfl (lv_room (Nat.le_of_ble_eq_true rfl)) (show decode cJ0_length_8abf5 6 = .ok (.invokevirtual 335, 3) by decide +kernel) ⟨Nat.le_refl _, Nat.le_refl _⟩) ?_
  refine lv_ishr hx hb (show decode cJ0_length_8abf5 9 = .ok (.ishr, 1) by decide +kernel) ?_
  rw [sb_shr0]
  exact W.zret (v := nI (zlen.getD k 0)) hx hb hr (rfl) (fun t ht _ => ⟨rfl, ht⟩) (fun q hq => by cases hq) (show decode cJ0_length_8abf5 10 = .ok (.ireturn, 1) by decide +kernel)
set_option maxRecDepth 100000 in
theorem zs_preN (l : Launch) (n : Nat) {g : Nat → Nat} {base : Nat} (i nn : Int32) (h0 : ¬ i < 0) (h1 : i < nn) : Met l yJ3_checkIndex_8e157 (zws yJ3_checkIndex_8e157 cJ3_checkIndex_8e157 3 (some .int)) (zroom (n + 0) 0 0) (zKc g base [.int i, .int nn, .null]) (zKq (some (.int i))) 0 0 (fun _ => False) := by
  refine Met.ofW (cc := cJ3_checkIndex_8e157) (maxL := 3) (ret := (some .int)) (by decide +kernel) rfl ?_
  intro p e s m args below meth co s₁ B hml hv
  obtain ⟨rfl, hST⟩ := hv
  have hx := B.exec
  have hb := B.bytes
  have hr := B.returns
  have hts0 := atoms_spec (ws := zws yJ3_checkIndex_8e157 cJ3_checkIndex_8e157 3 (some .int)) B.pre
  have hts : ∀ w ∈ zW, w.before ([.int i, .int nn, .null] : List Value).toArray s = true := fun w hw => hts0 w (List.mem_cons_of_mem _ hw)
  have hown : s.vm.findClass RJ3 = some m.cls := findClass_of_methodNamed B.named
  have hlocks := B.notSynchronized
  have hS : va_S (fun q : Nat => base ≤ q) s.heap s.heap [] := va_S.rf
  have hpre : ∀ (vs : List Value) (U : State), U.heap = s.heap → s.WarmedH U.vm → zKc g base vs vs.toArray U := fun vs U hU hWm => ⟨rfl, by show zSt g base U.heap U; rw [hU]; exact hST.warm hWm⟩
  rw [lg_entry_eq]
  have hl := lv_entry ([.int i, .int nn, .null] : List Value) (n := 3) (Nat.le_of_ble_eq_true rfl)
  generalize (lg_sl ([.int i, .int nn, .null] : List Value) ++ List.replicate (3 - (lg_sl ([.int i, .int nn, .null] : List Value)).length) Slot.unset).toArray = ls at hl ⊢
  have hl : lv_has ls 3 [(0, .int i), (1, .int nn), (2, .null)] := hl
  refine lv_iload_n hx hb (show decode cJ3_checkIndex_8e157 0 = .ok (.iload_n 0, 1) by decide +kernel) rfl (lv_at hl 0 rfl) ?_
  refine lv_if_lt (tgt := 9) hx hb (show decode cJ3_checkIndex_8e157 1 = .ok (.ifCond .lt 8, 3) by decide +kernel) (by decide) (fun c9 => absurd c9 h0) (fun c9 => ?_)
  refine lv_iload_n hx hb (show decode cJ3_checkIndex_8e157 4 = .ok (.iload_n 0, 1) by decide +kernel) rfl (lv_at hl 0 rfl) ?_
  refine lv_iload_n hx hb (show decode cJ3_checkIndex_8e157 5 = .ok (.iload_n 1, 1) by decide +kernel) rfl (lv_at hl 1 rfl) ?_
  refine lv_icmp_lt (tgt := 16) hx hb (show decode cJ3_checkIndex_8e157 6 = .ok (.if_icmp .lt 10, 3) by decide +kernel) (by decide) (fun c9 => ?_) (fun c9 => absurd h1 c9)
  refine lv_iload_n hx hb (show decode cJ3_checkIndex_8e157 16 = .ok (.iload_n 0, 1) by decide +kernel) rfl (lv_at hl 0 rfl) ?_
  exact W.zret (v := i) hx hb hr (rfl) (fun t ht _ => ⟨rfl, ht⟩) (fun q hq => by cases hq) (show decode cJ3_checkIndex_8e157 17 = .ok (.ireturn, 1) by decide +kernel)
set_option maxRecDepth 100000 in
theorem zs_preR (l : Launch) (n : Nat) {g : Nat → Nat} {base : Nat} (t : Nat) (i nn : Int32) (h0 : ¬ i < 0) (h1 : i < nn) : Met l yJ3_checkIndex_8e157 (zws yJ3_checkIndex_8e157 cJ3_checkIndex_8e157 3 (some .int)) (zroom (n + 0) 0 0) (zKc g base [.int i, .int nn, .ref t]) (zKq (some (.int i))) 0 0 (fun _ => False) := by
  refine Met.ofW (cc := cJ3_checkIndex_8e157) (maxL := 3) (ret := (some .int)) (by decide +kernel) rfl ?_
  intro p e s m args below meth co s₁ B hml hv
  obtain ⟨rfl, hST⟩ := hv
  have hx := B.exec
  have hb := B.bytes
  have hr := B.returns
  have hts0 := atoms_spec (ws := zws yJ3_checkIndex_8e157 cJ3_checkIndex_8e157 3 (some .int)) B.pre
  have hts : ∀ w ∈ zW, w.before ([.int i, .int nn, .ref t] : List Value).toArray s = true := fun w hw => hts0 w (List.mem_cons_of_mem _ hw)
  have hown : s.vm.findClass RJ3 = some m.cls := findClass_of_methodNamed B.named
  have hlocks := B.notSynchronized
  have hS : va_S (fun q : Nat => base ≤ q) s.heap s.heap [] := va_S.rf
  have hpre : ∀ (vs : List Value) (U : State), U.heap = s.heap → s.WarmedH U.vm → zKc g base vs vs.toArray U := fun vs U hU hWm => ⟨rfl, by show zSt g base U.heap U; rw [hU]; exact hST.warm hWm⟩
  rw [lg_entry_eq]
  have hl := lv_entry ([.int i, .int nn, .ref t] : List Value) (n := 3) (Nat.le_of_ble_eq_true rfl)
  generalize (lg_sl ([.int i, .int nn, .ref t] : List Value) ++ List.replicate (3 - (lg_sl ([.int i, .int nn, .ref t] : List Value)).length) Slot.unset).toArray = ls at hl ⊢
  have hl : lv_has ls 3 [(0, .int i), (1, .int nn), (2, .ref t)] := hl
  refine lv_iload_n hx hb (show decode cJ3_checkIndex_8e157 0 = .ok (.iload_n 0, 1) by decide +kernel) rfl (lv_at hl 0 rfl) ?_
  refine lv_if_lt (tgt := 9) hx hb (show decode cJ3_checkIndex_8e157 1 = .ok (.ifCond .lt 8, 3) by decide +kernel) (by decide) (fun c9 => absurd c9 h0) (fun c9 => ?_)
  refine lv_iload_n hx hb (show decode cJ3_checkIndex_8e157 4 = .ok (.iload_n 0, 1) by decide +kernel) rfl (lv_at hl 0 rfl) ?_
  refine lv_iload_n hx hb (show decode cJ3_checkIndex_8e157 5 = .ok (.iload_n 1, 1) by decide +kernel) rfl (lv_at hl 1 rfl) ?_
  refine lv_icmp_lt (tgt := 16) hx hb (show decode cJ3_checkIndex_8e157 6 = .ok (.if_icmp .lt 10, 3) by decide +kernel) (by decide) (fun c9 => ?_) (fun c9 => absurd h1 c9)
  refine lv_iload_n hx hb (show decode cJ3_checkIndex_8e157 16 = .ok (.iload_n 0, 1) by decide +kernel) rfl (lv_at hl 0 rfl) ?_
  exact W.zret (v := i) hx hb hr (rfl) (fun t ht _ => ⟨rfl, ht⟩) (fun q hq => by cases hq) (show decode cJ3_checkIndex_8e157 17 = .ok (.ireturn, 1) by decide +kernel)
set_option maxRecDepth 100000 in
theorem zs_chk (l : Launch) (n : Nat) {g : Nat → Nat} {base : Nat} (i nn : Int32) (h0 : ¬ i < 0) (h1 : i < nn) : Met l yJ0_checkIndex_df160 (zws yJ0_checkIndex_df160 cJ0_checkIndex_df160 2 none) (zroom (n + 1) 0 0) (zKc g base [.int i, .int nn]) (zKq none) 0 0 (fun _ => False) := by
  refine Met.ofW (cc := cJ0_checkIndex_df160) (maxL := 2) (ret := none) (by decide +kernel) rfl ?_
  intro p e s m args below meth co s₁ B hml hv
  obtain ⟨rfl, hST⟩ := hv
  have hx := B.exec
  have hb := B.bytes
  have hr := B.returns
  have hts0 := atoms_spec (ws := zws yJ0_checkIndex_df160 cJ0_checkIndex_df160 2 none) B.pre
  have hts : ∀ w ∈ zW, w.before ([.int i, .int nn] : List Value).toArray s = true := fun w hw => hts0 w (List.mem_cons_of_mem _ hw)
  have hown : s.vm.findClass RJ0 = some m.cls := findClass_of_methodNamed B.named
  have hlocks := B.notSynchronized
  have hS : va_S (fun q : Nat => base ≤ q) s.heap s.heap [] := va_S.rf
  have hpre : ∀ (vs : List Value) (U : State), U.heap = s.heap → s.WarmedH U.vm → zKc g base vs vs.toArray U := fun vs U hU hWm => ⟨rfl, by show zSt g base U.heap U; rw [hU]; exact hST.warm hWm⟩
  rw [lg_entry_eq]
  have hl := lv_entry ([.int i, .int nn] : List Value) (n := 2) (Nat.le_of_ble_eq_true rfl)
  generalize (lg_sl ([.int i, .int nn] : List Value) ++ List.replicate (2 - (lg_sl ([.int i, .int nn] : List Value)).length) Slot.unset).toArray = ls at hl ⊢
  have hl : lv_has ls 2 [(0, .int i), (1, .int nn)] := hl
  refine lv_iload_n hx hb (show decode cJ0_checkIndex_df160 0 = .ok (.iload_n 0, 1) by decide +kernel) rfl (lv_at hl 0 rfl) ?_
  refine lv_iload_n hx hb (show decode cJ0_checkIndex_df160 1 = .ok (.iload_n 1, 1) by decide +kernel) rfl (lv_at hl 1 rfl) ?_
  rcases hST.2.2.2.2.1 with hZ | ⟨t, hZ⟩
  · refine va_gets (ref := "jdk/internal/util/Preconditions") hx hb hZ hS hown (hts _ (zw_at (.fieldLink RJ0 1053 "jdk/internal/util/Preconditions" "SIOOBE_FORMATTER" "Ljava/util/function/BiFunction;") 325 (by decide +kernel))) (fun _ h => h) (show decode cJ0_checkIndex_df160 2 = .ok (.getstatic 1053, 3) by decide +kernel) ?_
    have hG : ∀ w ∈ va_wsS RJ0 1059 yJ3_checkIndex_8e157 (zws yJ3_checkIndex_8e157 cJ3_checkIndex_8e157 3 (some .int)), w ∈ zW := by
      intro w hw
      unfold va_wsS at hw
      rcases List.mem_append.mp hw with h1 | h1
      · simp only [List.mem_cons, List.not_mem_nil, or_false] at h1
        rcases h1 with rfl | rfl | rfl
        · exact zw_at _ 327 (by decide +kernel)
        · exact zw_at _ 328 (by decide +kernel)
        · exact zw_at _ 132 (by decide +kernel)
      · exact zGoodM (zw_at _ 329 (by decide +kernel)) w h1
    refine zk_go (va_runS (As := [.int i, .int nn, .null]) (rest := []) ⟨hx, hb, hml, hown, hts⟩ (zs_preN l n i nn h0 h1) (va_cwS 3 hts (zGood hG) rfl rfl rfl ⟨by decide +kernel, by decide +kernel, by decide +kernel⟩ ⟨by show n + 0 + 1 ≤ n + 1; omega, by show 8 + (3 + 11) + 40 * (n + 0) ≤ 40 * (n + 1); omega⟩) ⟨zKb, fun U hU hWm => hpre _ U hU hWm⟩ rfl rfl hl.1 rfl (lv_room (Nat.le_of_ble_eq_true rfl)) (show decode cJ0_checkIndex_df160 5 = .ok (.invokestatic 1059, 3) by decide +kernel) ⟨Nat.le_refl _, Nat.le_refl _⟩) ?_
    refine lv_pop hx hb (show decode cJ0_checkIndex_df160 8 = .ok (.pop, 1) by decide +kernel) rfl ?_
    exact W.vret hx hb hr (fun t ht _ => ⟨rfl, ht⟩) (fun q hq => by cases hq) (show decode cJ0_checkIndex_df160 9 = .ok (.return_, 1) by decide +kernel)
  · refine va_gets (ref := "jdk/internal/util/Preconditions") hx hb hZ hS hown (hts _ (zw_at (.fieldLink RJ0 1053 "jdk/internal/util/Preconditions" "SIOOBE_FORMATTER" "Ljava/util/function/BiFunction;") 325 (by decide +kernel))) (fun _ h => h) (show decode cJ0_checkIndex_df160 2 = .ok (.getstatic 1053, 3) by decide +kernel) ?_
    have hG : ∀ w ∈ va_wsS RJ0 1059 yJ3_checkIndex_8e157 (zws yJ3_checkIndex_8e157 cJ3_checkIndex_8e157 3 (some .int)), w ∈ zW := by
      intro w hw
      unfold va_wsS at hw
      rcases List.mem_append.mp hw with h1 | h1
      · simp only [List.mem_cons, List.not_mem_nil, or_false] at h1
        rcases h1 with rfl | rfl | rfl
        · exact zw_at _ 327 (by decide +kernel)
        · exact zw_at _ 328 (by decide +kernel)
        · exact zw_at _ 132 (by decide +kernel)
      · exact zGoodM (zw_at _ 329 (by decide +kernel)) w h1
    refine zk_go (va_runS (As := [.int i, .int nn, .ref t]) (rest := []) ⟨hx, hb, hml, hown, hts⟩ (zs_preR l n t i nn h0 h1) (va_cwS 3 hts (zGood hG) rfl rfl rfl ⟨by decide +kernel, by decide +kernel, by decide +kernel⟩ ⟨by show n + 0 + 1 ≤ n + 1; omega, by show 8 + (3 + 11) + 40 * (n + 0) ≤ 40 * (n + 1); omega⟩) ⟨zKb, fun U hU hWm => hpre _ U hU hWm⟩ rfl rfl hl.1 rfl (lv_room (Nat.le_of_ble_eq_true rfl)) (show decode cJ0_checkIndex_df160 5 = .ok (.invokestatic 1059, 3) by decide +kernel) ⟨Nat.le_refl _, Nat.le_refl _⟩) ?_
    refine lv_pop hx hb (show decode cJ0_checkIndex_df160 8 = .ok (.pop, 1) by decide +kernel) rfl ?_
    exact W.vret hx hb hr (fun t ht _ => ⟨rfl, ht⟩) (fun q hq => by cases hq) (show decode cJ0_checkIndex_df160 9 = .ok (.return_, 1) by decide +kernel)
set_option maxRecDepth 100000 in
theorem zs_l1c (l : Launch) (n : Nat) {g : Nat → Nat} {base : Nat} {k : Nat} (hk : k < 2) (i : Int32) (hi : ¬ (i < 0 ∨ zlen.getD k 0 ≤ i.toNatClampNeg)) : Met l yJ1_charAt_3b067 (zws yJ1_charAt_3b067 cJ1_charAt_3b067 2 (some .char)) (zroom (n + 2) 0 0) (zKc g base [.ref (g (3 + k)), .int i]) (zKq (some (.int (nI ((ztx k).getD i.toNatClampNeg 0))))) 0 0 (fun _ => False) := by
  refine Met.ofW (cc := cJ1_charAt_3b067) (maxL := 2) (ret := (some .char)) (by decide +kernel) rfl ?_
  intro p e s m args below meth co s₁ B hml hv
  obtain ⟨rfl, hST⟩ := hv
  have hx := B.exec
  have hb := B.bytes
  have hr := B.returns
  have hts0 := atoms_spec (ws := zws yJ1_charAt_3b067 cJ1_charAt_3b067 2 (some .char)) B.pre
  have hts : ∀ w ∈ zW, w.before ([.ref (g (3 + k)), .int i] : List Value).toArray s = true := fun w hw => hts0 w (List.mem_cons_of_mem _ hw)
  have hown : s.vm.findClass RJ1 = some m.cls := findClass_of_methodNamed B.named
  have hlocks := B.notSynchronized
  have hS : va_S (fun q : Nat => base ≤ q) s.heap s.heap [] := va_S.rf
  have hpre : ∀ (vs : List Value) (U : State), U.heap = s.heap → s.WarmedH U.vm → zKc g base vs vs.toArray U := fun vs U hU hWm => ⟨rfl, by show zSt g base U.heap U; rw [hU]; exact hST.warm hWm⟩
  obtain ⟨z1, z2⟩ := zs_byte hk hi
  have z0 : ¬ i < 0 := fun q => hi (Or.inl q)
  rw [lg_entry_eq]
  have hl := lv_entry ([.ref (g (3 + k)), .int i] : List Value) (n := 2) (Nat.le_of_ble_eq_true rfl)
  generalize (lg_sl ([.ref (g (3 + k)), .int i] : List Value) ++ List.replicate (2 - (lg_sl ([.ref (g (3 + k)), .int i] : List Value)).length) Slot.unset).toArray = ls at hl ⊢
  have hl : lv_has ls 2 [(0, .ref (g (3 + k))), (1, .int i)] := hl
  refine lv_iload_n hx hb (show decode cJ1_charAt_3b067 0 = .ok (.iload_n 1, 1) by decide +kernel) rfl (lv_at hl 1 rfl) ?_
  refine lv_aload_n hx hb (show decode cJ1_charAt_3b067 1 = .ok (.aload_n 0, 1) by decide +kernel) rfl (lv_at hl 0 rfl) ?_
  refine va_tlen (v := nI (zlen.getD k 0)) hx hb ((hST.2.1.1 k hk).2.2.2) hS rfl (show decode cJ1_charAt_3b067 2 = .ok (.arraylength, 1) by decide +kernel) ?_
  have hG : ∀ w ∈ va_wsS RJ1 9 yJ0_checkIndex_df160 (zws yJ0_checkIndex_df160 cJ0_checkIndex_df160 2 none), w ∈ zW := by
    intro w hw
    unfold va_wsS at hw
    rcases List.mem_append.mp hw with h1 | h1
    · simp only [List.mem_cons, List.not_mem_nil, or_false] at h1
      rcases h1 with rfl | rfl | rfl
      · exact zw_at _ 322 (by decide +kernel)
      · exact zw_at _ 323 (by decide +kernel)
      · exact zw_at _ 130 (by decide +kernel)
    · exact zGoodM (zw_at _ 324 (by decide +kernel)) w h1
  refine zk_go (va_runS (As := [.int i, .int (nI (zlen.getD k 0))]) (rest := []) ⟨hx, hb, hml, hown, hts⟩ (zs_chk l n i (nI (zlen.getD k 0)) z0 z1) (va_cwS 2 hts (zGood hG) rfl rfl rfl ⟨by decide +kernel, by decide +kernel, by decide +kernel⟩ ⟨by show n + 1 + 1 ≤ n + 2; omega, by show 8 + (2 + 11) + 40 * (n + 1) ≤ 40 * (n + 2); omega⟩) ⟨zKb, fun U hU hWm => hpre _ U hU hWm⟩ rfl rfl hl.1 rfl (lv_room (Nat.le_of_ble_eq_true rfl)) (show decode cJ1_charAt_3b067 3 = .ok (.invokestatic 9, 3) by decide +kernel) ⟨Nat.le_refl _, Nat.le_refl _⟩) ?_
  refine lv_aload_n hx hb (show decode cJ1_charAt_3b067 6 = .ok (.aload_n 0, 1) by decide +kernel) rfl (lv_at hl 0 rfl) ?_
  refine lv_iload_n hx hb (show decode cJ1_charAt_3b067 7 = .ok (.iload_n 1, 1) by decide +kernel) rfl (lv_at hl 1 rfl) ?_
  refine va_tb hx hb ((hST.2.1.1 k hk).2.2.2) hS (v := .int (nI ((ztx k).getD i.toNatClampNeg 0))) hi (congrArg Value.int z2.1) (show decode cJ1_charAt_3b067 8 = .ok (.baload, 1) by decide +kernel) ?_
  refine lv_sipush (v := 255) hx hb (show decode cJ1_charAt_3b067 9 = .ok (.sipush 255, 3) by decide +kernel) (by decide) ?_
  refine lv_iand hx hb (show decode cJ1_charAt_3b067 12 = .ok (.iand, 1) by decide +kernel) ?_
  rw [z2.2.1]
  refine lv_i2c hx hb (show decode cJ1_charAt_3b067 13 = .ok (.i2c, 1) by decide +kernel) z2.2.2.1 ?_
  exact W.zret (v := nI ((ztx k).getD i.toNatClampNeg 0)) hx hb hr (z2.2.2.2) (fun t ht _ => ⟨rfl, ht⟩) (fun q hq => by cases hq) (show decode cJ1_charAt_3b067 14 = .ok (.ireturn, 1) by decide +kernel)
set_option maxRecDepth 100000 in
theorem zs_charAt (l : Launch) (n : Nat) {g : Nat → Nat} {base : Nat} {k : Nat} (hk : k < 2) (i : Int32) (hi : ¬ (i < 0 ∨ zlen.getD k 0 ≤ i.toNatClampNeg)) : Met l yJ0_charAt_5068e (zws yJ0_charAt_5068e cJ0_charAt_5068e 2 (some .char)) (zroom (n + 3) 0 0) (zKc g base [.ref (g (1 + k)), .int i]) (zKq (some (.int (nI ((ztx k).getD i.toNatClampNeg 0))))) 0 0 (fun _ => False) := by
  refine Met.ofW (cc := cJ0_charAt_5068e) (maxL := 2) (ret := (some .char)) (by decide +kernel) rfl ?_
  intro p e s m args below meth co s₁ B hml hv
  obtain ⟨rfl, hST⟩ := hv
  have hx := B.exec
  have hb := B.bytes
  have hr := B.returns
  have hts0 := atoms_spec (ws := zws yJ0_charAt_5068e cJ0_charAt_5068e 2 (some .char)) B.pre
  have hts : ∀ w ∈ zW, w.before ([.ref (g (1 + k)), .int i] : List Value).toArray s = true := fun w hw => hts0 w (List.mem_cons_of_mem _ hw)
  have hown : s.vm.findClass RJ0 = some m.cls := findClass_of_methodNamed B.named
  have hlocks := B.notSynchronized
  have hS : va_S (fun q : Nat => base ≤ q) s.heap s.heap [] := va_S.rf
  have hpre : ∀ (vs : List Value) (U : State), U.heap = s.heap → s.WarmedH U.vm → zKc g base vs vs.toArray U := fun vs U hU hWm => ⟨rfl, by show zSt g base U.heap U; rw [hU]; exact hST.warm hWm⟩
  obtain ⟨z1, z2⟩ := zs_byte hk hi
  rw [lg_entry_eq]
  have hl := lv_entry ([.ref (g (1 + k)), .int i] : List Value) (n := 2) (Nat.le_of_ble_eq_true rfl)
  generalize (lg_sl ([.ref (g (1 + k)), .int i] : List Value) ++ List.replicate (2 - (lg_sl ([.ref (g (1 + k)), .int i] : List Value)).length) Slot.unset).toArray = ls at hl ⊢
  have hl : lv_has ls 2 [(0, .ref (g (1 + k))), (1, .int i)] := hl
  refine lv_aload_n hx hb (show decode cJ0_charAt_5068e 0 = .ok (.aload_n 0, 1) by decide +kernel) rfl (lv_at hl 0 rfl) ?_
  have hG : ∀ w ∈ wsV RJ0 492 RJ0 yJ0_isLatin1_aae02 (zws yJ0_isLatin1_aae02 cJ0_isLatin1_aae02 1 (some .boolean)), w ∈ zW := by
    intro w hw
    unfold wsV at hw
    rcases List.mem_append.mp hw with h1 | h1
    · simp only [List.mem_cons, List.not_mem_nil, or_false] at h1
      rcases h1 with rfl | rfl | rfl | rfl
      · exact zw_at _ 315 (by decide +kernel)
      · exact zw_at _ 316 (by decide +kernel)
      · exact zw_at _ 317 (by decide +kernel)
      · exact zw_at _ 130 (by decide +kernel)
    · exact zGoodM (zw_at _ 318 (by decide +kernel)) w h1
  refine zk_go (va_runV (As := []) (rest := []) ⟨hx, hb, hml, hown, hts⟩ (zs_lat l (n + 2) hk) (cwV (C := RJ0) 0 hts (zGood hG) rfl rfl rfl ⟨rfl, by decide +kernel, by decide +kernel, by decide +kernel⟩ ⟨by show n + 2 + 1 ≤ n + 3; omega, by show 8 + (1 + 11) + 40 * (n + 2) ≤ 40 * (n + 3); omega⟩) ⟨zKb, (by obtain ⟨cellB, b1, b2, b3, -⟩ := (hST.2.1.1 k hk).1; exact ⟨cellB, b1, b2, b3⟩), fun U hU hWm => hpre _ U hU hWm⟩ rfl rfl hl.1 rfl (lv_room (Nat.le_of_ble_eq_true rfl)) (show decode cJ0_charAt_5068e 1 = .ok (.invokevirtual 492, 3) by decide +kernel) ⟨Nat.le_refl _, Nat.le_refl _⟩) ?_
  refine lv_if_eq (tgt := 16) hx hb (show decode cJ0_charAt_5068e 4 = .ok (.ifCond .eq 12, 3) by decide +kernel) (by decide) (fun c9 => absurd c9 (by decide)) (fun c9 => ?_)
  refine lv_aload_n hx hb (show decode cJ0_charAt_5068e 7 = .ok (.aload_n 0, 1) by decide +kernel) rfl (lv_at hl 0 rfl) ?_
  refine vk_getf hx hb ((hST.2.1.1 k hk).2.2.1) hS hown (hts _ (zw_at (.fieldLink RJ0 9 "java/lang/String" "value" "[B") 2021 (by decide +kernel))) (fun _ h => h) (show decode cJ0_charAt_5068e 8 = .ok (.getfield 9, 3) by decide +kernel) ?_
  refine lv_iload_n hx hb (show decode cJ0_charAt_5068e 11 = .ok (.iload_n 1, 1) by decide +kernel) rfl (lv_at hl 1 rfl) ?_
  have hG : ∀ w ∈ va_wsS RJ0 495 yJ1_charAt_3b067 (zws yJ1_charAt_3b067 cJ1_charAt_3b067 2 (some .char)), w ∈ zW := by
    intro w hw
    unfold va_wsS at hw
    rcases List.mem_append.mp hw with h1 | h1
    · simp only [List.mem_cons, List.not_mem_nil, or_false] at h1
      rcases h1 with rfl | rfl | rfl
      · exact zw_at _ 319 (by decide +kernel)
      · exact zw_at _ 320 (by decide +kernel)
      · exact zw_at _ 131 (by decide +kernel)
    · exact zGoodM (zw_at _ 321 (by decide +kernel)) w h1
  refine zk_go (va_runS (As := [.ref (g (3 + k)), .int i]) (rest := []) ⟨hx, hb, hml, hown, hts⟩ (zs_l1c l n hk i hi) (va_cwS 2 hts (zGood hG) rfl rfl rfl ⟨by decide +kernel, by decide +kernel, by decide +kernel⟩ ⟨by show n + 2 + 1 ≤ n + 3; omega, by show 8 + (2 + 11) + 40 * (n + 2) ≤ 40 * (n + 3); omega⟩) ⟨zKb, fun U hU hWm => hpre _ U hU hWm⟩ rfl rfl hl.1 rfl (lv_room (Nat.le_of_ble_eq_true rfl)) (show decode cJ0_charAt_5068e 12 = .ok (.invokestatic 495, 3) by decide +kernel) ⟨Nat.le_refl _, Nat.le_refl _⟩) ?_
  exact W.zret (v := nI ((ztx k).getD i.toNatClampNeg 0)) hx hb hr (z2.2.2.2) (fun t ht _ => ⟨rfl, ht⟩) (fun q hq => by cases hq) (show decode cJ0_charAt_5068e 15 = .ok (.ireturn, 1) by decide +kernel)
