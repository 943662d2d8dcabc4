/-! indexOf of the two texts (laid by wip/whole/mk13.py) -/
theorem zixF_out {c : Int32} : ∀ (l : List Nat) (k : Nat), (∀ b ∈ l, nI b ≠ c) → zixF c l k = -1
  | [], _, _ => rfl
  | b :: l, k, h => by
    unfold zixF
    rw [if_neg (h b List.mem_cons_self)]
    exact zixF_out l (k + 1) (fun x hx => h x (List.mem_cons_of_mem _ hx))
theorem zs_pos : ∀ k, k < 2 → 0 < (ztx k).length := by decide +kernel
theorem zs_eq8 {b cc : Nat} (hb : b < 128) (hc : cc < 256) : nI b = (nI cc).toInt8.toInt32 ↔ nI b = nI cc := by
  obtain ⟨h1, -, -, h4⟩ := zs_c128 b hb
  constructor
  · intro h
    have h2 := sc_k8 cc hc
    rw [← h, h1] at h2
    exact h2
  · intro h
    have : b = cc := (nI_eq (by omega) (by omega)).mp h
    subst this
    exact h4.symm
set_option maxRecDepth 100000 in
theorem zs_encN (l : Launch) (n : Nat) {g : Nat → Nat} {base : Nat} (c : Int32) (h : c < 0) : Met l yJ1_canEncode_9a6ad (zws yJ1_canEncode_9a6ad cJ1_canEncode_9a6ad 1 (some .boolean)) (zroom (n + 0) 0 0) (zKc g base [.int c]) (zKq (some (.int 0))) 0 0 (fun _ => False) := by
  refine Met.ofW (cc := cJ1_canEncode_9a6ad) (maxL := 1) (ret := (some .boolean)) (by decide +kernel) rfl ?_
  intro p e s m args below meth co s₁ B hml hv
  obtain ⟨rfl, hST⟩ := hv
  have hx := B.exec
  have hb := B.bytes
  have hr := B.returns
  have hts0 := atoms_spec (ws := zws yJ1_canEncode_9a6ad cJ1_canEncode_9a6ad 1 (some .boolean)) B.pre
  have hts : ∀ w ∈ zW, w.before ([.int c] : List Value).toArray s = true := fun w hw => hts0 w (List.mem_cons_of_mem _ hw)
  have hown : s.vm.findClass RJ1 = some m.cls := findClass_of_methodNamed B.named
  have hlocks := B.notSynchronized
  have hS : va_S (fun q : Nat => base ≤ q) s.heap s.heap [] := va_S.rf
  have hpre : ∀ (vs : List Value) (U : State), U.heap = s.heap → s.WarmedH U.vm → zKc g base vs vs.toArray U := fun vs U hU hWm => ⟨rfl, by show zSt g base U.heap U; rw [hU]; exact hST.warm hWm⟩
  rw [lg_entry_eq]
  have hl := lv_entry ([.int c] : List Value) (n := 1) (Nat.le_of_ble_eq_true rfl)
  generalize (lg_sl ([.int c] : List Value) ++ List.replicate (1 - (lg_sl ([.int c] : List Value)).length) Slot.unset).toArray = ls at hl ⊢
  have hl : lv_has ls 1 [(0, .int c)] := hl
  refine lv_iload_n hx hb (show decode cJ1_canEncode_9a6ad 0 = .ok (.iload_n 0, 1) by decide +kernel) rfl (lv_at hl 0 rfl) ?_
  refine lv_if_lt (tgt := 15) hx hb (show decode cJ1_canEncode_9a6ad 1 = .ok (.ifCond .lt 14, 3) by decide +kernel) (by decide) (fun c9 => ?_) (fun c9 => absurd h c9)
  refine lv_iconst (v := 0) hx hb (show decode cJ1_canEncode_9a6ad 15 = .ok (.iconst 0, 1) by decide +kernel) (by decide) ?_
  exact W.zret (v := 0) hx hb hr (rfl) (fun t ht _ => ⟨rfl, ht⟩) (fun q hq => by cases hq) (show decode cJ1_canEncode_9a6ad 16 = .ok (.ireturn, 1) by decide +kernel)
set_option maxRecDepth 100000 in
theorem zs_encG (l : Launch) (n : Nat) {g : Nat → Nat} {base : Nat} (c : Int32) (h0 : ¬ c < 0) (h : 255 < c) : Met l yJ1_canEncode_9a6ad (zws yJ1_canEncode_9a6ad cJ1_canEncode_9a6ad 1 (some .boolean)) (zroom (n + 0) 0 0) (zKc g base [.int c]) (zKq (some (.int 0))) 0 0 (fun _ => False) := by
  refine Met.ofW (cc := cJ1_canEncode_9a6ad) (maxL := 1) (ret := (some .boolean)) (by decide +kernel) rfl ?_
  intro p e s m args below meth co s₁ B hml hv
  obtain ⟨rfl, hST⟩ := hv
  have hx := B.exec
  have hb := B.bytes
  have hr := B.returns
  have hts0 := atoms_spec (ws := zws yJ1_canEncode_9a6ad cJ1_canEncode_9a6ad 1 (some .boolean)) B.pre
  have hts : ∀ w ∈ zW, w.before ([.int c] : List Value).toArray s = true := fun w hw => hts0 w (List.mem_cons_of_mem _ hw)
  have hown : s.vm.findClass RJ1 = some m.cls := findClass_of_methodNamed B.named
  have hlocks := B.notSynchronized
  have hS : va_S (fun q : Nat => base ≤ q) s.heap s.heap [] := va_S.rf
  have hpre : ∀ (vs : List Value) (U : State), U.heap = s.heap → s.WarmedH U.vm → zKc g base vs vs.toArray U := fun vs U hU hWm => ⟨rfl, by show zSt g base U.heap U; rw [hU]; exact hST.warm hWm⟩
  rw [lg_entry_eq]
  have hl := lv_entry ([.int c] : List Value) (n := 1) (Nat.le_of_ble_eq_true rfl)
  generalize (lg_sl ([.int c] : List Value) ++ List.replicate (1 - (lg_sl ([.int c] : List Value)).length) Slot.unset).toArray = ls at hl ⊢
  have hl : lv_has ls 1 [(0, .int c)] := hl
  refine lv_iload_n hx hb (show decode cJ1_canEncode_9a6ad 0 = .ok (.iload_n 0, 1) by decide +kernel) rfl (lv_at hl 0 rfl) ?_
  refine lv_if_lt (tgt := 15) hx hb (show decode cJ1_canEncode_9a6ad 1 = .ok (.ifCond .lt 14, 3) by decide +kernel) (by decide) (fun c9 => absurd c9 h0) (fun c9 => ?_)
  refine lv_iload_n hx hb (show decode cJ1_canEncode_9a6ad 4 = .ok (.iload_n 0, 1) by decide +kernel) rfl (lv_at hl 0 rfl) ?_
  refine lv_sipush (v := 255) hx hb (show decode cJ1_canEncode_9a6ad 5 = .ok (.sipush 255, 3) by decide +kernel) (by decide) ?_
  refine lv_icmp_gt (tgt := 15) hx hb (show decode cJ1_canEncode_9a6ad 8 = .ok (.if_icmp .gt 7, 3) by decide +kernel) (by decide) (fun c9 => ?_) (fun c9 => absurd h c9)
  refine lv_iconst (v := 0) hx hb (show decode cJ1_canEncode_9a6ad 15 = .ok (.iconst 0, 1) by decide +kernel) (by decide) ?_
  exact W.zret (v := 0) hx hb hr (rfl) (fun t ht _ => ⟨rfl, ht⟩) (fun q hq => by cases hq) (show decode cJ1_canEncode_9a6ad 16 = .ok (.ireturn, 1) by decide +kernel)
set_option maxRecDepth 100000 in
theorem zs_encY (l : Launch) (n : Nat) {g : Nat → Nat} {base : Nat} (c : Int32) (h0 : ¬ c < 0) (h : ¬ 255 < c) : Met l yJ1_canEncode_9a6ad (zws yJ1_canEncode_9a6ad cJ1_canEncode_9a6ad 1 (some .boolean)) (zroom (n + 0) 0 0) (zKc g base [.int c]) (zKq (some (.int 1))) 0 0 (fun _ => False) := by
  refine Met.ofW (cc := cJ1_canEncode_9a6ad) (maxL := 1) (ret := (some .boolean)) (by decide +kernel) rfl ?_
  intro p e s m args below meth co s₁ B hml hv
  obtain ⟨rfl, hST⟩ := hv
  have hx := B.exec
  have hb := B.bytes
  have hr := B.returns
  have hts0 := atoms_spec (ws := zws yJ1_canEncode_9a6ad cJ1_canEncode_9a6ad 1 (some .boolean)) B.pre
  have hts : ∀ w ∈ zW, w.before ([.int c] : List Value).toArray s = true := fun w hw => hts0 w (List.mem_cons_of_mem _ hw)
  have hown : s.vm.findClass RJ1 = some m.cls := findClass_of_methodNamed B.named
  have hlocks := B.notSynchronized
  have hS : va_S (fun q : Nat => base ≤ q) s.heap s.heap [] := va_S.rf
  have hpre : ∀ (vs : List Value) (U : State), U.heap = s.heap → s.WarmedH U.vm → zKc g base vs vs.toArray U := fun vs U hU hWm => ⟨rfl, by show zSt g base U.heap U; rw [hU]; exact hST.warm hWm⟩
  rw [lg_entry_eq]
  have hl := lv_entry ([.int c] : List Value) (n := 1) (Nat.le_of_ble_eq_true rfl)
  generalize (lg_sl ([.int c] : List Value) ++ List.replicate (1 - (lg_sl ([.int c] : List Value)).length) Slot.unset).toArray = ls at hl ⊢
  have hl : lv_has ls 1 [(0, .int c)] := hl
  refine lv_iload_n hx hb (show decode cJ1_canEncode_9a6ad 0 = .ok (.iload_n 0, 1) by decide +kernel) rfl (lv_at hl 0 rfl) ?_
  refine lv_if_lt (tgt := 15) hx hb (show decode cJ1_canEncode_9a6ad 1 = .ok (.ifCond .lt 14, 3) by decide +kernel) (by decide) (fun c9 => absurd c9 h0) (fun c9 => ?_)
  refine lv_iload_n hx hb (show decode cJ1_canEncode_9a6ad 4 = .ok (.iload_n 0, 1) by decide +kernel) rfl (lv_at hl 0 rfl) ?_
  refine lv_sipush (v := 255) hx hb (show decode cJ1_canEncode_9a6ad 5 = .ok (.sipush 255, 3) by decide +kernel) (by decide) ?_
  refine lv_icmp_gt (tgt := 15) hx hb (show decode cJ1_canEncode_9a6ad 8 = .ok (.if_icmp .gt 7, 3) by decide +kernel) (by decide) (fun c9 => absurd c9 h) (fun c9 => ?_)
  refine lv_iconst (v := 1) hx hb (show decode cJ1_canEncode_9a6ad 11 = .ok (.iconst 1, 1) by decide +kernel) (by decide) ?_
  refine lv_goto (tgt := 16) hx hb (show decode cJ1_canEncode_9a6ad 12 = .ok (.goto 4, 3) by decide +kernel) (by decide) ?_
  exact W.zret (v := 1) hx hb hr (rfl) (fun t ht _ => ⟨rfl, ht⟩) (fun q hq => by cases hq) (show decode cJ1_canEncode_9a6ad 16 = .ok (.ireturn, 1) by decide +kernel)
set_option maxRecDepth 100000 in
theorem zs_ixc (l : Launch) (n : Nat) {g : Nat → Nat} {base : Nat} {k : Nat} (hk : k < 2) {cc : Nat} (hcc : cc < 256) : Met l yJ1_indexOfChar_4cfef (zws yJ1_indexOfChar_4cfef cJ1_indexOfChar_4cfef 6 (some .int)) (zroom (n + 0) 0 0) (zKc g base [.ref (g (3 + k)), .int (nI cc), .int (nI 0), .int (nI (ztx k).length)]) (zKq (some (.int (zixF (nI cc) (ztx k) 0)))) 0 0 (fun _ => False) := by
  refine Met.ofW (cc := cJ1_indexOfChar_4cfef) (maxL := 6) (ret := (some .int)) (by decide +kernel) rfl ?_
  intro p e s m args below meth co s₁ B hml hv
  obtain ⟨rfl, hST⟩ := hv
  have hx := B.exec
  have hb := B.bytes
  have hr := B.returns
  have hts0 := atoms_spec (ws := zws yJ1_indexOfChar_4cfef cJ1_indexOfChar_4cfef 6 (some .int)) B.pre
  have hts : ∀ w ∈ zW, w.before ([.ref (g (3 + k)), .int (nI cc), .int (nI 0), .int (nI (ztx k).length)] : List Value).toArray s = true := fun w hw => hts0 w (List.mem_cons_of_mem _ hw)
  have hown : s.vm.findClass RJ1 = some m.cls := findClass_of_methodNamed B.named
  have hlocks := B.notSynchronized
  have hS : va_S (fun q : Nat => base ≤ q) s.heap s.heap [] := va_S.rf
  have hpre : ∀ (vs : List Value) (U : State), U.heap = s.heap → s.WarmedH U.vm → zKc g base vs vs.toArray U := fun vs U hU hWm => ⟨rfl, by show zSt g base U.heap U; rw [hU]; exact hST.warm hWm⟩
  obtain ⟨h1, h2, h3, h4⟩ := zs_all k hk
  rw [lg_entry_eq]
  have hl := lv_entry ([.ref (g (3 + k)), .int (nI cc), .int (nI 0), .int (nI (ztx k).length)] : List Value) (n := 6) (Nat.le_of_ble_eq_true rfl)
  generalize (lg_sl ([.ref (g (3 + k)), .int (nI cc), .int (nI 0), .int (nI (ztx k).length)] : List Value) ++ List.replicate (6 - (lg_sl ([.ref (g (3 + k)), .int (nI cc), .int (nI 0), .int (nI (ztx k).length)] : List Value)).length) Slot.unset).toArray = ls at hl ⊢
  have hl : lv_has ls 6 [(0, .ref (g (3 + k))), (1, .int (nI cc)), (2, .int (nI 0)), (3, .int (nI (ztx k).length))] := hl
  refine lv_iload_n hx hb (show decode cJ1_indexOfChar_4cfef 0 = .ok (.iload_n 1, 1) by decide +kernel) rfl (lv_at hl 1 rfl) ?_
  refine lv_i2b hx hb (show decode cJ1_indexOfChar_4cfef 1 = .ok (.i2b, 1) by decide +kernel) rfl ?_
  refine lv_istore (lv' := [(4, .int (nI cc).toInt8.toInt32), (0, .ref (g (3 + k))), (1, .int (nI cc)), (2, .int (nI 0)), (3, .int (nI (ztx k).length))]) hx hb (show decode cJ1_indexOfChar_4cfef 2 = .ok (.istore 4, 2) by decide +kernel) hl (by decide) rfl (fun ls hl => ?_)
  refine lv_iload_n hx hb (show decode cJ1_indexOfChar_4cfef 4 = .ok (.iload_n 2, 1) by decide +kernel) rfl (lv_at hl 3 rfl) ?_
  refine lv_istore (lv' := [(5, .int (nI 0)), (4, .int (nI cc).toInt8.toInt32), (0, .ref (g (3 + k))), (1, .int (nI cc)), (2, .int (nI 0)), (3, .int (nI (ztx k).length))]) hx hb (show decode cJ1_indexOfChar_4cfef 5 = .ok (.istore 5, 2) by decide +kernel) hl (by decide) rfl (fun ls hl => ?_)
  have loop : ∀ (t : List Nat) (j : Nat) (ls : Array Slot), (ztx k).drop j = t → j ≤ (ztx k).length → zixF (nI cc) t j = zixF (nI cc) (ztx k) 0 → lv_has ls 6 [(5, .int (nI j)), (4, .int (nI cc).toInt8.toInt32), (0, .ref (g (3 + k))), (3, .int (nI (ztx k).length))] → W p l e (headSpec (zws yJ1_indexOfChar_4cfef cJ1_indexOfChar_4cfef 6 (some .int)) (zroom (n + 0) 0 0)).room s m (([.ref (g (3 + k)), .int (nI cc), .int (nI 0), .int (nI (ztx k).length)] : List Value).toArray) below meth co s.heap [] 0 0 (MQ below (zKq (some (.int (zixF (nI cc) (ztx k) 0)))) (([.ref (g (3 + k)), .int (nI cc), .int (nI 0), .int (nI (ztx k).length)] : List Value).toArray) s 0 0 (fun _ => False)) (F0 m 7 ls []) := by
    intro t
    induction t with
    | nil =>
      intro j ls hd hj hz hl
      have hje : j = (ztx k).length := by
        have := congrArg List.length hd
        simp at this
        omega
      subst hje
      refine lv_iload hx hb (show decode cJ1_indexOfChar_4cfef 7 = .ok (.iload 5, 2) by decide +kernel) (lv_at hl 0 rfl) ?_
      refine lv_iload_n hx hb (show decode cJ1_indexOfChar_4cfef 9 = .ok (.iload_n 3, 1) by decide +kernel) rfl (lv_at hl 3 rfl) ?_
      refine lv_icmp_ge (tgt := 31) hx hb (show decode cJ1_indexOfChar_4cfef 10 = .ok (.if_icmp .ge 21, 3) by decide +kernel) (by decide) (fun c9 => ?_) (fun c9 => absurd (nI_le (Nat.le_refl _) (by omega)) c9)
      refine lv_iconst (v := -1) hx hb (show decode cJ1_indexOfChar_4cfef 31 = .ok (.iconst (-1), 1) by decide +kernel) (by decide) ?_
      exact W.zret (v := -1) hx hb hr (rfl) (fun t ht _ => ⟨congrArg (fun z => Outcome.returned (some (Value.int z))) hz, ht⟩) (fun q hq => by cases hq) (show decode cJ1_indexOfChar_4cfef 32 = .ok (.ireturn, 1) by decide +kernel)
    | cons b t ih =>
      intro j ls hd hj hz hl
      have hlt : j < (ztx k).length := by
        have := congrArg List.length hd
        simp at this
        omega
      have hbj : (ztx k)[j]? = some b := by
        have := congrArg (fun z => z[0]?) hd
        simpa using this
      have hb8 : b < 128 := h1 b (List.mem_of_getElem? hbj)
      have hdt : (ztx k).drop (j + 1) = t := by
        rw [← List.drop_drop, hd]
        rfl
      refine lv_iload hx hb (show decode cJ1_indexOfChar_4cfef 7 = .ok (.iload 5, 2) by decide +kernel) (lv_at hl 0 rfl) ?_
      refine lv_iload_n hx hb (show decode cJ1_indexOfChar_4cfef 9 = .ok (.iload_n 3, 1) by decide +kernel) rfl (lv_at hl 3 rfl) ?_
      refine lv_icmp_ge (tgt := 31) hx hb (show decode cJ1_indexOfChar_4cfef 10 = .ok (.if_icmp .ge 21, 3) by decide +kernel) (by decide) (fun c9 => absurd c9 (nI_ge hlt (by omega))) (fun c9 => ?_)
      refine lv_aload_n hx hb (show decode cJ1_indexOfChar_4cfef 13 = .ok (.aload_n 0, 1) by decide +kernel) rfl (lv_at hl 2 rfl) ?_
      refine lv_iload hx hb (show decode cJ1_indexOfChar_4cfef 14 = .ok (.iload 5, 2) by decide +kernel) (lv_at hl 0 rfl) ?_
      refine va_tb hx hb ((hST.2.1.1 k hk).2.2.2) hS (v := .int (nI b)) (by rw [h3]; exact vp_in_nI hlt (by omega)) (by rw [nI_clamp (by omega), h4, List.getD_eq_getElem?_getD, List.getElem?_map, hbj]; rfl) (show decode cJ1_indexOfChar_4cfef 16 = .ok (.baload, 1) by decide +kernel) ?_
      refine lv_iload hx hb (show decode cJ1_indexOfChar_4cfef 17 = .ok (.iload 4, 2) by decide +kernel) (lv_at hl 1 rfl) ?_
      refine lv_icmp_ne (tgt := 25) hx hb (show decode cJ1_indexOfChar_4cfef 19 = .ok (.if_icmp .ne 6, 3) by decide +kernel) (by decide) (fun c9 => ?_) (fun c9 => ?_)
      · refine lv_iinc (v := nI (j + 1)) (k := 0) (lv' := [(5, .int (nI (j + 1))), (4, .int (nI cc).toInt8.toInt32), (0, .ref (g (3 + k))), (3, .int (nI (ztx k).length))]) hx hb (show decode cJ1_indexOfChar_4cfef 25 = .ok (.iinc 5 1, 3) by decide +kernel) hl rfl (nI_1 j) (by decide) rfl (fun ls hl => ?_)
        refine lv_goto (tgt := 7) hx hb (show decode cJ1_indexOfChar_4cfef 28 = .ok (.goto (-21), 3) by decide +kernel) (by decide) ?_
        refine ih (j + 1) ls hdt hlt ?_ hl
        rw [show zixF (nI cc) (b :: t) j = if nI b = nI cc then nI j else zixF (nI cc) t (j + 1) from rfl] at hz
        rw [if_neg (fun z => c9 ((zs_eq8 hb8 hcc).mpr z))] at hz
        exact hz
      · refine lv_iload hx hb (show decode cJ1_indexOfChar_4cfef 22 = .ok (.iload 5, 2) by decide +kernel) (lv_at hl 0 rfl) ?_
        rw [show zixF (nI cc) (b :: t) j = if nI b = nI cc then nI j else zixF (nI cc) t (j + 1) from rfl] at hz
        rw [if_pos ((zs_eq8 hb8 hcc).mp c9)] at hz
        exact W.zret (v := nI j) hx hb hr (rfl) (fun t ht _ => ⟨congrArg (fun z => Outcome.returned (some (Value.int z))) hz, ht⟩) (fun q hq => by cases hq) (show decode cJ1_indexOfChar_4cfef 24 = .ok (.ireturn, 1) by decide +kernel)
  exact loop (ztx k) 0 ls rfl (Nat.zero_le _) rfl (lv_sub hl [0, 1, 2, 5] rfl)
set_option maxRecDepth 100000 in
theorem zs_lxN (l : Launch) (n : Nat) {g : Nat → Nat} {base : Nat} {k : Nat} (hk : k < 2) (c : Int32) (h : c < 0) : Met l yJ1_indexOf_4cfef (zws yJ1_indexOf_4cfef cJ1_indexOf_4cfef 4 (some .int)) (zroom (n + 2) 0 0) (zKc g base [.ref (g (3 + k)), .int c, .int 0, .int (nI (ztx k).length)]) (zKq (some (.int (-1)))) 0 0 (fun _ => False) := by
  refine Met.ofW (cc := cJ1_indexOf_4cfef) (maxL := 4) (ret := (some .int)) (by decide +kernel) rfl ?_
  intro p e s m args below meth co s₁ B hml hv
  obtain ⟨rfl, hST⟩ := hv
  have hx := B.exec
  have hb := B.bytes
  have hr := B.returns
  have hts0 := atoms_spec (ws := zws yJ1_indexOf_4cfef cJ1_indexOf_4cfef 4 (some .int)) B.pre
  have hts : ∀ w ∈ zW, w.before ([.ref (g (3 + k)), .int c, .int 0, .int (nI (ztx k).length)] : List Value).toArray s = true := fun w hw => hts0 w (List.mem_cons_of_mem _ hw)
  have hown : s.vm.findClass RJ1 = some m.cls := findClass_of_methodNamed B.named
  have hlocks := B.notSynchronized
  have hS : va_S (fun q : Nat => base ≤ q) s.heap s.heap [] := va_S.rf
  have hpre : ∀ (vs : List Value) (U : State), U.heap = s.heap → s.WarmedH U.vm → zKc g base vs vs.toArray U := fun vs U hU hWm => ⟨rfl, by show zSt g base U.heap U; rw [hU]; exact hST.warm hWm⟩
  rw [lg_entry_eq]
  have hl := lv_entry ([.ref (g (3 + k)), .int c, .int 0, .int (nI (ztx k).length)] : List Value) (n := 4) (Nat.le_of_ble_eq_true rfl)
  generalize (lg_sl ([.ref (g (3 + k)), .int c, .int 0, .int (nI (ztx k).length)] : List Value) ++ List.replicate (4 - (lg_sl ([.ref (g (3 + k)), .int c, .int 0, .int (nI (ztx k).length)] : List Value)).length) Slot.unset).toArray = ls at hl ⊢
  have hl : lv_has ls 4 [(0, .ref (g (3 + k))), (1, .int c), (2, .int 0), (3, .int (nI (ztx k).length))] := hl
  refine lv_iload_n hx hb (show decode cJ1_indexOf_4cfef 0 = .ok (.iload_n 1, 1) by decide +kernel) rfl (lv_at hl 1 rfl) ?_
  have hG : ∀ w ∈ va_wsS RJ1 88 yJ1_canEncode_9a6ad (zws yJ1_canEncode_9a6ad cJ1_canEncode_9a6ad 1 (some .boolean)), w ∈ zW := by
    intro w hw
    unfold va_wsS at hw
    rcases List.mem_append.mp hw with h1 | h1
    · simp only [List.mem_cons, List.not_mem_nil, or_false] at h1
      rcases h1 with rfl | rfl | rfl
      · exact zw_at _ 687 (by decide +kernel)
      · exact zw_at _ 688 (by decide +kernel)
      · exact zw_at _ 131 (by decide +kernel)
    · exact zGoodM (zw_at _ 689 (by decide +kernel)) w h1
  refine zk_go (va_runS (As := [.int c]) (rest := []) ⟨hx, hb, hml, hown, hts⟩ (zs_encN l (n + 1) c h) (va_cwS 1 hts (zGood hG) rfl rfl rfl ⟨by decide +kernel, by decide +kernel, by decide +kernel⟩ ⟨by show n + 1 + 1 ≤ n + 2; omega, by show 8 + (1 + 11) + 40 * (n + 1) ≤ 40 * (n + 2); omega⟩) ⟨zKb, fun U hU hWm => hpre _ U hU hWm⟩ rfl rfl hl.1 rfl (lv_room (Nat.le_of_ble_eq_true rfl)) (show decode cJ1_indexOf_4cfef 1 = .ok (.invokestatic 88, 3) by decide +kernel) ⟨Nat.le_refl _, Nat.le_refl _⟩) ?_
  refine lv_if_ne (tgt := 9) hx hb (show decode cJ1_indexOf_4cfef 4 = .ok (.ifCond .ne 5, 3) by decide +kernel) (by decide) (fun c9 => absurd rfl c9) (fun c9 => ?_)
  refine lv_iconst (v := -1) hx hb (show decode cJ1_indexOf_4cfef 7 = .ok (.iconst (-1), 1) by decide +kernel) (by decide) ?_
  exact W.zret (v := -1) hx hb hr (rfl) (fun t ht _ => ⟨rfl, ht⟩) (fun q hq => by cases hq) (show decode cJ1_indexOf_4cfef 8 = .ok (.ireturn, 1) by decide +kernel)
set_option maxRecDepth 100000 in
theorem zs_lxG (l : Launch) (n : Nat) {g : Nat → Nat} {base : Nat} {k : Nat} (hk : k < 2) (c : Int32) (h0 : ¬ c < 0) (h : 255 < c) : Met l yJ1_indexOf_4cfef (zws yJ1_indexOf_4cfef cJ1_indexOf_4cfef 4 (some .int)) (zroom (n + 2) 0 0) (zKc g base [.ref (g (3 + k)), .int c, .int 0, .int (nI (ztx k).length)]) (zKq (some (.int (-1)))) 0 0 (fun _ => False) := by
  refine Met.ofW (cc := cJ1_indexOf_4cfef) (maxL := 4) (ret := (some .int)) (by decide +kernel) rfl ?_
  intro p e s m args below meth co s₁ B hml hv
  obtain ⟨rfl, hST⟩ := hv
  have hx := B.exec
  have hb := B.bytes
  have hr := B.returns
  have hts0 := atoms_spec (ws := zws yJ1_indexOf_4cfef cJ1_indexOf_4cfef 4 (some .int)) B.pre
  have hts : ∀ w ∈ zW, w.before ([.ref (g (3 + k)), .int c, .int 0, .int (nI (ztx k).length)] : List Value).toArray s = true := fun w hw => hts0 w (List.mem_cons_of_mem _ hw)
  have hown : s.vm.findClass RJ1 = some m.cls := findClass_of_methodNamed B.named
  have hlocks := B.notSynchronized
  have hS : va_S (fun q : Nat => base ≤ q) s.heap s.heap [] := va_S.rf
  have hpre : ∀ (vs : List Value) (U : State), U.heap = s.heap → s.WarmedH U.vm → zKc g base vs vs.toArray U := fun vs U hU hWm => ⟨rfl, by show zSt g base U.heap U; rw [hU]; exact hST.warm hWm⟩
  rw [lg_entry_eq]
  have hl := lv_entry ([.ref (g (3 + k)), .int c, .int 0, .int (nI (ztx k).length)] : List Value) (n := 4) (Nat.le_of_ble_eq_true rfl)
  generalize (lg_sl ([.ref (g (3 + k)), .int c, .int 0, .int (nI (ztx k).length)] : List Value) ++ List.replicate (4 - (lg_sl ([.ref (g (3 + k)), .int c, .int 0, .int (nI (ztx k).length)] : List Value)).length) Slot.unset).toArray = ls at hl ⊢
  have hl : lv_has ls 4 [(0, .ref (g (3 + k))), (1, .int c), (2, .int 0), (3, .int (nI (ztx k).length))] := hl
  refine lv_iload_n hx hb (show decode cJ1_indexOf_4cfef 0 = .ok (.iload_n 1, 1) by decide +kernel) rfl (lv_at hl 1 rfl) ?_
  have hG : ∀ w ∈ va_wsS RJ1 88 yJ1_canEncode_9a6ad (zws yJ1_canEncode_9a6ad cJ1_canEncode_9a6ad 1 (some .boolean)), w ∈ zW := by
    intro w hw
    unfold va_wsS at hw
    rcases List.mem_append.mp hw with h1 | h1
    · simp only [List.mem_cons, List.not_mem_nil, or_false] at h1
      rcases h1 with rfl | rfl | rfl
      · exact zw_at _ 687 (by decide +kernel)
      · exact zw_at _ 688 (by decide +kernel)
      · exact zw_at _ 131 (by decide +kernel)
    · exact zGoodM (zw_at _ 689 (by decide +kernel)) w h1
  refine zk_go (va_runS (As := [.int c]) (rest := []) ⟨hx, hb, hml, hown, hts⟩ (zs_encG l (n + 1) c h0 h) (va_cwS 1 hts (zGood hG) rfl rfl rfl ⟨by decide +kernel, by decide +kernel, by decide +kernel⟩ ⟨by show n + 1 + 1 ≤ n + 2; omega, by show 8 + (1 + 11) + 40 * (n + 1) ≤ 40 * (n + 2); omega⟩) ⟨zKb, fun U hU hWm => hpre _ U hU hWm⟩ rfl rfl hl.1 rfl (lv_room (Nat.le_of_ble_eq_true rfl)) (show decode cJ1_indexOf_4cfef 1 = .ok (.invokestatic 88, 3) by decide +kernel) ⟨Nat.le_refl _, Nat.le_refl _⟩) ?_
  refine lv_if_ne (tgt := 9) hx hb (show decode cJ1_indexOf_4cfef 4 = .ok (.ifCond .ne 5, 3) by decide +kernel) (by decide) (fun c9 => absurd rfl c9) (fun c9 => ?_)
  refine lv_iconst (v := -1) hx hb (show decode cJ1_indexOf_4cfef 7 = .ok (.iconst (-1), 1) by decide +kernel) (by decide) ?_
  exact W.zret (v := -1) hx hb hr (rfl) (fun t ht _ => ⟨rfl, ht⟩) (fun q hq => by cases hq) (show decode cJ1_indexOf_4cfef 8 = .ok (.ireturn, 1) by decide +kernel)
set_option maxRecDepth 100000 in
theorem zs_lxY (l : Launch) (n : Nat) {g : Nat → Nat} {base : Nat} {k : Nat} (hk : k < 2) {cc : Nat} (hcc : cc < 256) : Met l yJ1_indexOf_4cfef (zws yJ1_indexOf_4cfef cJ1_indexOf_4cfef 4 (some .int)) (zroom (n + 2) 0 0) (zKc g base [.ref (g (3 + k)), .int (nI cc), .int 0, .int (nI (ztx k).length)]) (zKq (some (.int (zixF (nI cc) (ztx k) 0)))) 0 0 (fun _ => False) := by
  refine Met.ofW (cc := cJ1_indexOf_4cfef) (maxL := 4) (ret := (some .int)) (by decide +kernel) rfl ?_
  intro p e s m args below meth co s₁ B hml hv
  obtain ⟨rfl, hST⟩ := hv
  have hx := B.exec
  have hb := B.bytes
  have hr := B.returns
  have hts0 := atoms_spec (ws := zws yJ1_indexOf_4cfef cJ1_indexOf_4cfef 4 (some .int)) B.pre
  have hts : ∀ w ∈ zW, w.before ([.ref (g (3 + k)), .int (nI cc), .int 0, .int (nI (ztx k).length)] : List Value).toArray s = true := fun w hw => hts0 w (List.mem_cons_of_mem _ hw)
  have hown : s.vm.findClass RJ1 = some m.cls := findClass_of_methodNamed B.named
  have hlocks := B.notSynchronized
  have hS : va_S (fun q : Nat => base ≤ q) s.heap s.heap [] := va_S.rf
  have hpre : ∀ (vs : List Value) (U : State), U.heap = s.heap → s.WarmedH U.vm → zKc g base vs vs.toArray U := fun vs U hU hWm => ⟨rfl, by show zSt g base U.heap U; rw [hU]; exact hST.warm hWm⟩
  obtain ⟨h1, h2, h3, h4⟩ := zs_all k hk
  have hpos : 0 < (ztx k).length := zs_pos k hk
  have c0 : ¬ nI cc < 0 := nI_pos (by omega)
  have c1 : ¬ 255 < nI cc := nI_nlt (a := 255) (b := cc) (by omega) (by omega)
  rw [lg_entry_eq]
  have hl := lv_entry ([.ref (g (3 + k)), .int (nI cc), .int 0, .int (nI (ztx k).length)] : List Value) (n := 4) (Nat.le_of_ble_eq_true rfl)
  generalize (lg_sl ([.ref (g (3 + k)), .int (nI cc), .int 0, .int (nI (ztx k).length)] : List Value) ++ List.replicate (4 - (lg_sl ([.ref (g (3 + k)), .int (nI cc), .int 0, .int (nI (ztx k).length)] : List Value)).length) Slot.unset).toArray = ls at hl ⊢
  have hl : lv_has ls 4 [(0, .ref (g (3 + k))), (1, .int (nI cc)), (2, .int 0), (3, .int (nI (ztx k).length))] := hl
  refine lv_iload_n hx hb (show decode cJ1_indexOf_4cfef 0 = .ok (.iload_n 1, 1) by decide +kernel) rfl (lv_at hl 1 rfl) ?_
  have hG : ∀ w ∈ va_wsS RJ1 88 yJ1_canEncode_9a6ad (zws yJ1_canEncode_9a6ad cJ1_canEncode_9a6ad 1 (some .boolean)), w ∈ zW := by
    intro w hw
    unfold va_wsS at hw
    rcases List.mem_append.mp hw with h1 | h1
    · simp only [List.mem_cons, List.not_mem_nil, or_false] at h1
      rcases h1 with rfl | rfl | rfl
      · exact zw_at _ 687 (by decide +kernel)
      · exact zw_at _ 688 (by decide +kernel)
      · exact zw_at _ 131 (by decide +kernel)
    · exact zGoodM (zw_at _ 689 (by decide +kernel)) w h1
  refine zk_go (va_runS (As := [.int (nI cc)]) (rest := []) ⟨hx, hb, hml, hown, hts⟩ (zs_encY l (n + 1) (nI cc) c0 c1) (va_cwS 1 hts (zGood hG) rfl rfl rfl ⟨by decide +kernel, by decide +kernel, by decide +kernel⟩ ⟨by show n + 1 + 1 ≤ n + 2; omega, by show 8 + (1 + 11) + 40 * (n + 1) ≤ 40 * (n + 2); omega⟩) ⟨zKb, fun U hU hWm => hpre _ U hU hWm⟩ rfl rfl hl.1 rfl (lv_room (Nat.le_of_ble_eq_true rfl)) (show decode cJ1_indexOf_4cfef 1 = .ok (.invokestatic 88, 3) by decide +kernel) ⟨Nat.le_refl _, Nat.le_refl _⟩) ?_
  refine lv_if_ne (tgt := 9) hx hb (show decode cJ1_indexOf_4cfef 4 = .ok (.ifCond .ne 5, 3) by decide +kernel) (by decide) (fun c9 => ?_) (fun c9 => absurd c9 (by decide))
  refine lv_iload_n hx hb (show decode cJ1_indexOf_4cfef 9 = .ok (.iload_n 2, 1) by decide +kernel) rfl (lv_at hl 2 rfl) ?_
  refine lv_iconst (v := 0) hx hb (show decode cJ1_indexOf_4cfef 10 = .ok (.iconst 0, 1) by decide +kernel) (by decide) ?_
  refine va_mmax hx hb (hml.trans hl.1.symm) hown (hts _ (zw_at (.methodLink RJ1 92 Lib.Math.max.name) 690 (by decide +kernel))) (hts _ (zw_at (.static Lib.Math.max.name) 691 (by decide +kernel))) (hts _ (zw_at (.initialized "java/lang/Math") 141 (by decide +kernel))) (hts _ (zw_at (.code Lib.Math.max.name Lib.Math.max.code 2 (some .int)) 692 (by decide +kernel))) (by show 1 ≤ n + 2; omega) (by show 0 + 13 ≤ 40 * (n + 2); omega) (Nat.le_refl _) (Nat.le_refl _) (show decode cJ1_indexOf_4cfef 11 = .ok (.invokestatic 92, 3) by decide +kernel) ?_
  rw [if_neg (by decide)]
  refine lv_istore_n (lv' := [(2, .int 0), (0, .ref (g (3 + k))), (1, .int (nI cc)), (3, .int (nI (ztx k).length))]) hx hb (show decode cJ1_indexOf_4cfef 14 = .ok (.istore_n 2, 1) by decide +kernel) rfl hl (by decide) rfl (fun ls hl => ?_)
  refine lv_iload_n hx hb (show decode cJ1_indexOf_4cfef 15 = .ok (.iload_n 3, 1) by decide +kernel) rfl (lv_at hl 3 rfl) ?_
  refine lv_aload_n hx hb (show decode cJ1_indexOf_4cfef 16 = .ok (.aload_n 0, 1) by decide +kernel) rfl (lv_at hl 1 rfl) ?_
  refine va_tlen (v := nI (ztx k).length) hx hb ((hST.2.1.1 k hk).2.2.2) hS (by rw [h3]; rfl) (show decode cJ1_indexOf_4cfef 17 = .ok (.arraylength, 1) by decide +kernel) ?_
  refine va_mmin hx hb (hml.trans hl.1.symm) hown (hts _ (zw_at (.methodLink RJ1 38 Lib.Math.min.name) 693 (by decide +kernel))) (hts _ (zw_at (.static Lib.Math.min.name) 694 (by decide +kernel))) (hts _ (zw_at (.initialized "java/lang/Math") 141 (by decide +kernel))) (hts _ (zw_at (.code Lib.Math.min.name Lib.Math.min.code 2 (some .int)) 695 (by decide +kernel))) (by show 1 ≤ n + 2; omega) (by show 0 + 13 ≤ 40 * (n + 2); omega) (Nat.le_refl _) (Nat.le_refl _) (show decode cJ1_indexOf_4cfef 18 = .ok (.invokestatic 38, 3) by decide +kernel) ?_
  rw [if_neg (nI_nlt (Nat.le_refl _) (by omega))]
  refine lv_istore_n (lv' := [(3, .int (nI (ztx k).length)), (2, .int 0), (0, .ref (g (3 + k))), (1, .int (nI cc))]) hx hb (show decode cJ1_indexOf_4cfef 21 = .ok (.istore_n 3, 1) by decide +kernel) rfl hl (by decide) rfl (fun ls hl => ?_)
  refine lv_iload_n hx hb (show decode cJ1_indexOf_4cfef 22 = .ok (.iload_n 2, 1) by decide +kernel) rfl (lv_at hl 1 rfl) ?_
  refine lv_iload_n hx hb (show decode cJ1_indexOf_4cfef 23 = .ok (.iload_n 3, 1) by decide +kernel) rfl (lv_at hl 0 rfl) ?_
  refine lv_icmp_lt (tgt := 29) hx hb (show decode cJ1_indexOf_4cfef 24 = .ok (.if_icmp .lt 5, 3) by decide +kernel) (by decide) (fun c9 => ?_) (fun c9 => absurd (nI_lt (a := 0) hpos (by omega)) c9)
  refine lv_aload_n hx hb (show decode cJ1_indexOf_4cfef 29 = .ok (.aload_n 0, 1) by decide +kernel) rfl (lv_at hl 2 rfl) ?_
  refine lv_iload_n hx hb (show decode cJ1_indexOf_4cfef 30 = .ok (.iload_n 1, 1) by decide +kernel) rfl (lv_at hl 3 rfl) ?_
  refine lv_iload_n hx hb (show decode cJ1_indexOf_4cfef 31 = .ok (.iload_n 2, 1) by decide +kernel) rfl (lv_at hl 1 rfl) ?_
  refine lv_iload_n hx hb (show decode cJ1_indexOf_4cfef 32 = .ok (.iload_n 3, 1) by decide +kernel) rfl (lv_at hl 0 rfl) ?_
  have hG : ∀ w ∈ va_wsS RJ1 95 yJ1_indexOfChar_4cfef (zws yJ1_indexOfChar_4cfef cJ1_indexOfChar_4cfef 6 (some .int)), w ∈ zW := by
    intro w hw
    unfold va_wsS at hw
    rcases List.mem_append.mp hw with h1 | h1
    · simp only [List.mem_cons, List.not_mem_nil, or_false] at h1
      rcases h1 with rfl | rfl | rfl
      · exact zw_at _ 696 (by decide +kernel)
      · exact zw_at _ 697 (by decide +kernel)
      · exact zw_at _ 131 (by decide +kernel)
    · exact zGoodM (zw_at _ 698 (by decide +kernel)) w h1
  refine zk_go (va_runS (As := [.ref (g (3 + k)), .int (nI cc), .int (nI 0), .int (nI (ztx k).length)]) (rest := []) ⟨hx, hb, hml, hown, hts⟩ (zs_ixc l (n + 1) hk hcc) (va_cwS 4 hts (zGood hG) rfl rfl rfl ⟨by decide +kernel, by decide +kernel, by decide +kernel⟩ ⟨by show n + 1 + 1 ≤ n + 2; omega, by show 8 + (6 + 11) + 40 * (n + 1) ≤ 40 * (n + 2); omega⟩) ⟨zKb, fun U hU hWm => hpre _ U hU hWm⟩ rfl rfl hl.1 rfl (lv_room (Nat.le_of_ble_eq_true rfl)) (show decode cJ1_indexOf_4cfef 33 = .ok (.invokestatic 95, 3) by decide +kernel) ⟨Nat.le_refl _, Nat.le_refl _⟩) ?_
  exact W.zret (v := zixF (nI cc) (ztx k) 0) hx hb hr (rfl) (fun t ht _ => ⟨rfl, ht⟩) (fun q hq => by cases hq) (show decode cJ1_indexOf_4cfef 36 = .ok (.ireturn, 1) by decide +kernel)
theorem zs_lx (l : Launch) (n : Nat) {g : Nat → Nat} {base : Nat} {k : Nat} (hk : k < 2) (c : Int32) : Met l yJ1_indexOf_4cfef (zws yJ1_indexOf_4cfef cJ1_indexOf_4cfef 4 (some .int)) (zroom (n + 2) 0 0) (zKc g base [.ref (g (3 + k)), .int c, .int 0, .int (nI (ztx k).length)]) (zKq (some (.int (zixF c (ztx k) 0)))) 0 0 (fun _ => False) := by
  obtain ⟨h1, h2, h3, h4⟩ := zs_all k hk
  by_cases a : c < 0
  · rw [zixF_out (ztx k) 0 (fun b hb z => absurd a (by rw [← z]; exact nI_pos (by have := h1 b hb; omega)))]
    exact zs_lxN l n hk c a
  · by_cases b : 255 < c
    · rw [zixF_out (ztx k) 0 (fun x hx z => absurd b (by rw [← z]; exact nI_nlt (a := 255) (b := x) (by have := h1 x hx; omega) (by omega)))]
      exact zs_lxG l n hk c a b
    · obtain ⟨cc, hcc, rfl⟩ := nI_of a
      refine zs_lxY l n hk (cc := cc) ?_
      rcases Nat.lt_or_ge cc 256 with q | q
      · exact q
      · exact absurd (nI_lt (a := 255) (b := cc) (by omega) hcc) b
set_option maxRecDepth 100000 in
theorem zs_ix2 (l : Launch) (n : Nat) {g : Nat → Nat} {base : Nat} {k : Nat} (hk : k < 2) (c : Int32) : Met l yJ0_indexOf_7cf53 (zws yJ0_indexOf_7cf53 cJ0_indexOf_7cf53 3 (some .int)) (zroom (n + 3) 0 0) (zKc g base [.ref (g (1 + k)), .int c, .int 0]) (zKq (some (.int (zixF c (ztx k) 0)))) 0 0 (fun _ => False) := by
  refine Met.ofW (cc := cJ0_indexOf_7cf53) (maxL := 3) (ret := (some .int)) (by decide +kernel) rfl ?_
  intro p e s m args below meth co s₁ B hml hv
  obtain ⟨rfl, hST⟩ := hv
  have hx := B.exec
  have hb := B.bytes
  have hr := B.returns
  have hts0 := atoms_spec (ws := zws yJ0_indexOf_7cf53 cJ0_indexOf_7cf53 3 (some .int)) B.pre
  have hts : ∀ w ∈ zW, w.before ([.ref (g (1 + k)), .int c, .int 0] : List Value).toArray s = true := fun w hw => hts0 w (List.mem_cons_of_mem _ hw)
  have hown : s.vm.findClass RJ0 = some m.cls := findClass_of_methodNamed B.named
  have hlocks := B.notSynchronized
  have hS : va_S (fun q : Nat => base ≤ q) s.heap s.heap [] := va_S.rf
  have hpre : ∀ (vs : List Value) (U : State), U.heap = s.heap → s.WarmedH U.vm → zKc g base vs vs.toArray U := fun vs U hU hWm => ⟨rfl, by show zSt g base U.heap U; rw [hU]; exact hST.warm hWm⟩
  obtain ⟨h1, h2, h3, h4⟩ := zs_all k hk
  rw [lg_entry_eq]
  have hl := lv_entry ([.ref (g (1 + k)), .int c, .int 0] : List Value) (n := 3) (Nat.le_of_ble_eq_true rfl)
  generalize (lg_sl ([.ref (g (1 + k)), .int c, .int 0] : List Value) ++ List.replicate (3 - (lg_sl ([.ref (g (1 + k)), .int c, .int 0] : List Value)).length) Slot.unset).toArray = ls at hl ⊢
  have hl : lv_has ls 3 [(0, .ref (g (1 + k))), (1, .int c), (2, .int 0)] := hl
  refine lv_aload_n hx hb (show decode cJ0_indexOf_7cf53 0 = .ok (.aload_n 0, 1) by decide +kernel) rfl (lv_at hl 0 rfl) ?_
  have hG : ∀ w ∈ wsV RJ0 492 RJ0 yJ0_isLatin1_aae02 (zws yJ0_isLatin1_aae02 cJ0_isLatin1_aae02 1 (some .boolean)), w ∈ zW := by
    intro w hw
    unfold wsV at hw
    rcases List.mem_append.mp hw with h1 | h1
    · simp only [List.mem_cons, List.not_mem_nil, or_false] at h1
      rcases h1 with rfl | rfl | rfl | rfl
      · exact zw_at _ 315 (by decide +kernel)
      · exact zw_at _ 316 (by decide +kernel)
      · exact zw_at _ 317 (by decide +kernel)
      · exact zw_at _ 130 (by decide +kernel)
    · exact zGoodM (zw_at _ 318 (by decide +kernel)) w h1
  refine zk_go (va_runV (As := []) (rest := []) ⟨hx, hb, hml, hown, hts⟩ (zs_lat l (n + 2) hk) (cwV (C := RJ0) 0 hts (zGood hG) rfl rfl rfl ⟨rfl, by decide +kernel, by decide +kernel, by decide +kernel⟩ ⟨by show n + 2 + 1 ≤ n + 3; omega, by show 8 + (1 + 11) + 40 * (n + 2) ≤ 40 * (n + 3); omega⟩) ⟨zKb, (by obtain ⟨cellB, b1, b2, b3, -⟩ := (hST.2.1.1 k hk).1; exact ⟨cellB, b1, b2, b3⟩), fun U hU hWm => hpre _ U hU hWm⟩ rfl rfl hl.1 rfl (lv_room (Nat.le_of_ble_eq_true rfl)) (show decode cJ0_indexOf_7cf53 1 = .ok (.invokevirtual 492, 3) by decide +kernel) ⟨Nat.le_refl _, Nat.le_refl _⟩) ?_
  refine lv_if_eq (tgt := 23) hx hb (show decode cJ0_indexOf_7cf53 4 = .ok (.ifCond .eq 19, 3) by decide +kernel) (by decide) (fun c9 => absurd c9 (by decide)) (fun c9 => ?_)
  refine lv_aload_n hx hb (show decode cJ0_indexOf_7cf53 7 = .ok (.aload_n 0, 1) by decide +kernel) rfl (lv_at hl 0 rfl) ?_
  refine vk_getf hx hb ((hST.2.1.1 k hk).2.2.1) hS hown (hts _ (zw_at (.fieldLink RJ0 9 "java/lang/String" "value" "[B") 2021 (by decide +kernel))) (fun _ h => h) (show decode cJ0_indexOf_7cf53 8 = .ok (.getfield 9, 3) by decide +kernel) ?_
  refine lv_iload_n hx hb (show decode cJ0_indexOf_7cf53 11 = .ok (.iload_n 1, 1) by decide +kernel) rfl (lv_at hl 1 rfl) ?_
  refine lv_iload_n hx hb (show decode cJ0_indexOf_7cf53 12 = .ok (.iload_n 2, 1) by decide +kernel) rfl (lv_at hl 2 rfl) ?_
  refine lv_aload_n hx hb (show decode cJ0_indexOf_7cf53 13 = .ok (.aload_n 0, 1) by decide +kernel) rfl (lv_at hl 0 rfl) ?_
  have hG : ∀ w ∈ wsV RJ0 505 RJ0 yJ0_length_8abf5 (zws yJ0_length_8abf5 cJ0_length_8abf5 1 (some .int)), w ∈ zW := by
    intro w hw
    unfold wsV at hw
    rcases List.mem_append.mp hw with h1 | h1
    · simp only [List.mem_cons, List.not_mem_nil, or_false] at h1
      rcases h1 with rfl | rfl | rfl | rfl
      · exact zw_at _ 683 (by decide +kernel)
      · exact zw_at _ 302 (by decide +kernel)
      · exact zw_at _ 303 (by decide +kernel)
      · exact zw_at _ 130 (by decide +kernel)
    · exact zGoodM (zw_at _ 304 (by decide +kernel)) w h1
  refine zk_go (va_runV (As := []) (rest := [.int 0, .int c, .ref (g (3 + k))]) ⟨hx, hb, hml, hown, hts⟩ (zs_length l (n + 1) hk) (cwV (C := RJ0) 0 hts (zGood hG) rfl rfl rfl ⟨rfl, by decide +kernel, by decide +kernel, by decide +kernel⟩ ⟨by show n + 2 + 1 ≤ n + 3; omega, by show 8 + (1 + 11) + 40 * (n + 2) ≤ 40 * (n + 3); omega⟩) ⟨zKb, (by obtain ⟨cellB, b1, b2, b3, -⟩ := (hST.2.1.1 k hk).1; exact ⟨cellB, b1, b2, b3⟩), fun U hU hWm => hpre _ U hU hWm⟩ rfl rfl hl.1 rfl (lv_room (Nat.le_of_ble_eq_true rfl)) (show decode cJ0_indexOf_7cf53 14 = .ok (.invokevirtual 505, 3) by decide +kernel) ⟨Nat.le_refl _, Nat.le_refl _⟩) ?_
  have hG : ∀ w ∈ va_wsS RJ0 637 yJ1_indexOf_4cfef (zws yJ1_indexOf_4cfef cJ1_indexOf_4cfef 4 (some .int)), w ∈ zW := by
    intro w hw
    unfold va_wsS at hw
    rcases List.mem_append.mp hw with h1 | h1
    · simp only [List.mem_cons, List.not_mem_nil, or_false] at h1
      rcases h1 with rfl | rfl | rfl
      · exact zw_at _ 684 (by decide +kernel)
      · exact zw_at _ 685 (by decide +kernel)
      · exact zw_at _ 131 (by decide +kernel)
    · exact zGoodM (zw_at _ 686 (by decide +kernel)) w h1
  refine zk_go (va_runS (As := [.ref (g (3 + k)), .int c, .int 0, .int (nI (zlen.getD k 0))]) (rest := []) ⟨hx, hb, hml, hown, hts⟩ (by rw [h3]; exact zs_lx l n hk c) (va_cwS 4 hts (zGood hG) rfl rfl rfl ⟨by decide +kernel, by decide +kernel, by decide +kernel⟩ ⟨by show n + 2 + 1 ≤ n + 3; omega, by show 8 + (4 + 11) + 40 * (n + 2) ≤ 40 * (n + 3); omega⟩) ⟨zKb, fun U hU hWm => hpre _ U hU hWm⟩ rfl rfl hl.1 rfl (lv_room (Nat.le_of_ble_eq_true rfl)) (show decode cJ0_indexOf_7cf53 17 = .ok (.invokestatic 637, 3) by decide +kernel) ⟨Nat.le_refl _, Nat.le_refl _⟩) ?_
  refine lv_goto (tgt := 36) hx hb (show decode cJ0_indexOf_7cf53 20 = .ok (.goto 16, 3) by decide +kernel) (by decide) ?_
  exact W.zret (v := zixF c (ztx k) 0) hx hb hr (rfl) (fun t ht _ => ⟨rfl, ht⟩) (fun q hq => by cases hq) (show decode cJ0_indexOf_7cf53 36 = .ok (.ireturn, 1) by decide +kernel)
set_option maxRecDepth 100000 in
theorem zs_ix1 (l : Launch) (n : Nat) {g : Nat → Nat} {base : Nat} {k : Nat} (hk : k < 2) (c : Int32) : Met l yJ0_indexOf_0f7a4 (zws yJ0_indexOf_0f7a4 cJ0_indexOf_0f7a4 2 (some .int)) (zroom (n + 4) 0 0) (zKc g base [.ref (g (1 + k)), .int c]) (zKq (some (.int (zixF c (ztx k) 0)))) 0 0 (fun _ => False) := by
  refine Met.ofW (cc := cJ0_indexOf_0f7a4) (maxL := 2) (ret := (some .int)) (by decide +kernel) rfl ?_
  intro p e s m args below meth co s₁ B hml hv
  obtain ⟨rfl, hST⟩ := hv
  have hx := B.exec
  have hb := B.bytes
  have hr := B.returns
  have hts0 := atoms_spec (ws := zws yJ0_indexOf_0f7a4 cJ0_indexOf_0f7a4 2 (some .int)) B.pre
  have hts : ∀ w ∈ zW, w.before ([.ref (g (1 + k)), .int c] : List Value).toArray s = true := fun w hw => hts0 w (List.mem_cons_of_mem _ hw)
  have hown : s.vm.findClass RJ0 = some m.cls := findClass_of_methodNamed B.named
  have hlocks := B.notSynchronized
  have hS : va_S (fun q : Nat => base ≤ q) s.heap s.heap [] := va_S.rf
  have hpre : ∀ (vs : List Value) (U : State), U.heap = s.heap → s.WarmedH U.vm → zKc g base vs vs.toArray U := fun vs U hU hWm => ⟨rfl, by show zSt g base U.heap U; rw [hU]; exact hST.warm hWm⟩
  rw [lg_entry_eq]
  have hl := lv_entry ([.ref (g (1 + k)), .int c] : List Value) (n := 2) (Nat.le_of_ble_eq_true rfl)
  generalize (lg_sl ([.ref (g (1 + k)), .int c] : List Value) ++ List.replicate (2 - (lg_sl ([.ref (g (1 + k)), .int c] : List Value)).length) Slot.unset).toArray = ls at hl ⊢
  have hl : lv_has ls 2 [(0, .ref (g (1 + k))), (1, .int c)] := hl
  refine lv_aload_n hx hb (show decode cJ0_indexOf_0f7a4 0 = .ok (.aload_n 0, 1) by decide +kernel) rfl (lv_at hl 0 rfl) ?_
  refine lv_iload_n hx hb (show decode cJ0_indexOf_0f7a4 1 = .ok (.iload_n 1, 1) by decide +kernel) rfl (lv_at hl 1 rfl) ?_
  refine lv_iconst (v := 0) hx hb (show decode cJ0_indexOf_0f7a4 2 = .ok (.iconst 0, 1) by decide +kernel) (by decide) ?_
  have hG : ∀ w ∈ wsV RJ0 633 RJ0 yJ0_indexOf_7cf53 (zws yJ0_indexOf_7cf53 cJ0_indexOf_7cf53 3 (some .int)), w ∈ zW := by
    intro w hw
    unfold wsV at hw
    rcases List.mem_append.mp hw with h1 | h1
    · simp only [List.mem_cons, List.not_mem_nil, or_false] at h1
      rcases h1 with rfl | rfl | rfl | rfl
      · exact zw_at _ 679 (by decide +kernel)
      · exact zw_at _ 680 (by decide +kernel)
      · exact zw_at _ 681 (by decide +kernel)
      · exact zw_at _ 130 (by decide +kernel)
    · exact zGoodM (zw_at _ 682 (by decide +kernel)) w h1
  refine zk_go (va_runV (As := [.int c, .int 0]) (rest := []) ⟨hx, hb, hml, hown, hts⟩ (zs_ix2 l n hk c) (cwV (C := RJ0) 2 hts (zGood hG) rfl rfl rfl ⟨rfl, by decide +kernel, by decide +kernel, by decide +kernel⟩ ⟨by show n + 3 + 1 ≤ n + 4; omega, by show 8 + (3 + 11) + 40 * (n + 3) ≤ 40 * (n + 4); omega⟩) ⟨zKb, (by obtain ⟨cellB, b1, b2, b3, -⟩ := (hST.2.1.1 k hk).1; exact ⟨cellB, b1, b2, b3⟩), fun U hU hWm => hpre _ U hU hWm⟩ rfl rfl hl.1 rfl (lv_room (Nat.le_of_ble_eq_true rfl)) (show decode cJ0_indexOf_0f7a4 3 = .ok (.invokevirtual 633, 3) by decide +kernel) ⟨Nat.le_refl _, Nat.le_refl _⟩) ?_
  exact W.zret (v := zixF c (ztx k) 0) hx hb hr (rfl) (fun t ht _ => ⟨rfl, ht⟩) (fun q hq => by cases hq) (show decode cJ0_indexOf_0f7a4 6 = .ok (.ireturn, 1) by decide +kernel)
/-- the texts' members do what the small machine says of them -/
theorem zMet_of {l : Launch} {D : va_G} {cy : Nat → ClassId} {g : Nat → Nat} {base : Nat} {G : Heap} {X : List Int32} {y : MethodName} {cc : ByteArray} {ml : Nat} {ret : Option FieldType} {vs : List Value} {M : zM} {v : Option Value} (h : Met l y (zws y cc ml ret) (zroom 4 0 0) (zKc g base (vs.map (ztr (zad g base)))) (zKq (v.map (ztr (zad g base)))) 0 0 (fun _ => False)) : zMet l D cy g base G X 4 y cc ml ret vs M (v, M) := by
  unfold zMet
  show Met l y (zws y cc ml ret) (zroom 4 (M.length - M.length) (zsl M - zsl M)) _ _ (M.length - M.length) (zsl M - zsl M) _
  rw [Nat.sub_self, Nat.sub_self]
  intro p e ha hc hk s m args below hf happ hP hK
  obtain ⟨n, o, h1, h2, h3, ⟨hq1, hq2⟩, L, hL1, hL2⟩ := h p e ha hc hk s m args below hf happ ⟨hP.1, hP.2.2.2.2.2.2.kept hP.2.1.2.2.1⟩ hK
  exact ⟨n, o, h1, h2, h3, ⟨hq1, by rw [hq2]; exact hP.2.1⟩, L, hL1, fun q hq => (hL2 q hq).elim⟩
theorem zstr_ok (l : Launch) (D : va_G) (cy : Nat → ClassId) (g : Nat → Nat) (base : Nat) (G : Heap) (X : List Int32) : zStrOK l D cy g base G X := by
  have key : ∀ {a : Nat}, a = zBig + 1 ∨ a = zBig + 2 → ∃ k, k < 2 ∧ a - (zBig + 1) = k ∧ zad g base a = g (1 + k) := by
    intro a h
    rcases h with rfl | rfl
    · exact ⟨0, by omega, rfl, zad_big g base 1⟩
    · exact ⟨1, by omega, rfl, zad_big g base 2⟩
  intro j vs M r h
  unfold zprm at h
  split at h
  · split at h
    · rename_i hq
      cases h
      obtain ⟨k, hk, e1, e2⟩ := key hq
      rw [e1]
      refine zMet_of ?_
      show Met l _ _ _ (zKc g base [Value.ref (zad g base _)]) (zKq (some (.int _))) 0 0 _
      rw [e2, ← (zs_all k hk).2.2.1]
      exact zs_length l 3 hk
    · cases h
  · split at h
    · rename_i hq
      cases h
      obtain ⟨k, hk, e1, e2⟩ := key hq.1
      rw [e1] at hq ⊢
      refine zMet_of ?_
      show Met l _ _ _ (zKc g base [Value.ref (zad g base _), .int _]) (zKq (some (.int _))) 0 0 _
      rw [e2]
      exact zs_charAt l 1 hk _ (by rw [(zs_all k hk).2.2.1]; exact hq.2)
    · cases h
  · split at h
    · rename_i hq
      cases h
      obtain ⟨k, hk, e1, e2⟩ := key hq
      rw [e1]
      refine zMet_of ?_
      show Met l _ _ _ (zKc g base [Value.ref (zad g base _), .int _]) (zKq (some (.int _))) 0 0 _
      rw [e2]
      exact zs_ix1 l 0 hk _
    · cases h
  · cases h
