/-! its steps are the machine's own: stack, jumps, locals -/
def zad (g : Nat → Nat) (base : Nat) (k : Nat) : Nat := if k < zBig then base + k else g (k - zBig)
def ztr (ad : Nat → Nat) : Value → Value
  | .ref k => .ref (ad k)
  | v => v
theorem ztr_cat (ad : Nat → Nat) (v : Value) : (ztr ad v).category = v.category := by cases v <;> rfl
theorem zcat_tr (ad : Nat → Nat) (st : List Value) : ((st.map (ztr ad)).map fun v => v.category).sum = zcat st := by
  unfold zcat
  rw [List.map_map]
  congr 1
  apply List.map_congr_left
  intro v _
  exact ztr_cat ad v
section ZP
variable {p : Program} {l : Launch} {e : Env} {R : Room} {s : State} {m : MethodId} {args : Array Value} {below : List Frame} {meth : Method} {c : Code} {H : Heap} {locs : List Loc} {cells slots : Nat} {Q : State → Prop} {cc : ByteArray} {pc : Nat} {ls : Array Slot} {ad : Nat → Nat}
theorem zpure_sim (hx : p.tables.exec = Jvm.exec) (hb : c.code = cc) {i : Instr} {len n : Nat} {st st' : List Value} (hd : decode cc pc = .ok (i, len)) (h : zpure i st = some (n, st')) (hn : n = len)
    (k : W p l e R s m args below meth c H locs cells slots Q (F0 m (pc + len) ls (st'.map (ztr ad)))) : W p l e R s m args below meth c H locs cells slots Q (F0 m pc ls (st.map (ztr ad))) := by
  subst hn
  unfold zpure at h
  split at h
  · cases h; exact lv_iconst hx hb hd rfl k
  · cases h; exact lv_bipush hx hb hd rfl k
  · cases h; exact lv_sipush hx hb hd rfl k
  · cases h; exact lv_lconst hx hb hd rfl k
  · cases h; exact lv_null hx hb hd k
  · cases h; exact lv_iadd hx hb hd k
  · cases h; exact lv_isub hx hb hd k
  · cases h; exact lv_imul hx hb hd k
  · split at h
    · cases h
    · cases h; exact lv_idiv hx hb hd (by assumption) k
  · split at h
    · cases h
    · cases h; exact lv_irem hx hb hd (by assumption) k
  · cases h; exact lv_iand hx hb hd k
  · cases h; exact lv_ior hx hb hd k
  · cases h; exact lv_ishl hx hb hd k
  · cases h; exact lv_ishr hx hb hd k
  · cases h; exact lv_iushr hx hb hd rfl k
  · cases h; exact lv_ladd hx hb hd k
  · cases h; exact lv_lsub hx hb hd k
  · cases h; exact lv_lmul hx hb hd k
  · split at h
    · cases h
    · cases h; exact lv_ldiv hx hb hd (by assumption) k
  · split at h
    · cases h
    · cases h; exact lv_lrem hx hb hd (by assumption) k
  · cases h; exact lv_land hx hb hd k
  · cases h; exact lv_lor hx hb hd k
  · cases h; exact lv_lshl hx hb hd rfl k
  · cases h; exact lv_lshr hx hb hd rfl k
  · cases h; exact W.lcmp hx hb hd k
  · cases h; exact lv_i2l hx hb hd rfl k
  · cases h; exact lv_l2i hx hb hd rfl k
  · cases h; exact lv_i2c hx hb hd rfl k
  · split at h
    · rename_i hc
      cases h; exact lv_dup hx hb hd (by rw [ztr_cat]; exact hc) k
    · cases h
  · split at h
    · rename_i hc
      cases h; exact lv_dup2_2 hx hb hd (by rw [ztr_cat]; exact hc) k
    · split at h
      · split at h
        · rename_i hc
          cases h; exact lv_dup2_11 hx hb hd (by rw [ztr_cat]; exact hc.1) (by rw [ztr_cat]; exact hc.2) k
        · cases h
      · cases h
  · split at h
    · rename_i hc
      cases h; exact lv_pop hx hb hd (by rw [ztr_cat]; exact hc) k
    · cases h
  · cases h
theorem zbr_sim (hx : p.tables.exec = Jvm.exec) (hb : c.code = cc) {i : Instr} {len pc' : Nat} {st st' : List Value} (hd : decode cc pc = .ok (i, len)) (h : zbr i pc len st = some (pc', st'))
    (k : W p l e R s m args below meth c H locs cells slots Q (F0 m pc' ls (st'.map (ztr ad)))) : W p l e R s m args below meth c H locs cells slots Q (F0 m pc ls (st.map (ztr ad))) := by
  unfold zbr at h
  split at h
  · split at h
    · rename_i hl
      subst hl
      cases ht : ztgt pc ‹Int› with
      | none => rw [ht] at h; cases h
      | some t => rw [ht] at h; cases h; exact lv_goto hx hb hd (ztgt_eq ht) k
    · cases h
  · split at h
    · rename_i hl
      subst hl
      split at h
      · cases h
      · rename_i t ht
        have ht := ztgt_eq ht
        split at h
        · cases h; exact lv_if_eq hx hb hd ht (fun q => by rw [if_pos q] at k; exact k) (fun q => by rw [if_neg q] at k; exact k)
        · cases h; exact lv_if_ne hx hb hd ht (fun q => by rw [if_neg q] at k; exact k) (fun q => by rw [if_pos q] at k; exact k)
        · cases h; exact lv_if_lt hx hb hd ht (fun q => by rw [if_pos q] at k; exact k) (fun q => by rw [if_neg q] at k; exact k)
        · cases h; exact lv_if_ge hx hb hd ht (fun q => by rw [if_pos q] at k; exact k) (fun q => by rw [if_neg q] at k; exact k)
        · cases h; exact lv_if_gt hx hb hd ht (fun q => by rw [if_pos q] at k; exact k) (fun q => by rw [if_neg q] at k; exact k)
        · cases h; exact lv_if_le hx hb hd ht (fun q => by rw [if_pos q] at k; exact k) (fun q => by rw [if_neg q] at k; exact k)
    · cases h
  · split at h
    · rename_i hl
      subst hl
      split at h
      · cases h
      · rename_i t ht
        have ht := ztgt_eq ht
        split at h
        · cases h; exact lv_icmp_eq hx hb hd ht (fun q => by rw [if_pos q] at k; exact k) (fun q => by rw [if_neg q] at k; exact k)
        · cases h; exact lv_icmp_ne hx hb hd ht (fun q => by rw [if_neg q] at k; exact k) (fun q => by rw [if_pos q] at k; exact k)
        · cases h; exact lv_icmp_lt hx hb hd ht (fun q => by rw [if_pos q] at k; exact k) (fun q => by rw [if_neg q] at k; exact k)
        · cases h; exact lv_icmp_ge hx hb hd ht (fun q => by rw [if_pos q] at k; exact k) (fun q => by rw [if_neg q] at k; exact k)
        · cases h; exact lv_icmp_gt hx hb hd ht (fun q => by rw [if_pos q] at k; exact k) (fun q => by rw [if_neg q] at k; exact k)
        · cases h; exact lv_icmp_le hx hb hd ht (fun q => by rw [if_pos q] at k; exact k) (fun q => by rw [if_neg q] at k; exact k)
    · cases h
  · split at h
    · rename_i hl
      subst hl
      cases ht : ztgt pc ‹Int› with
      | none => rw [ht] at h; cases h
      | some t => rw [ht] at h; cases h; exact lv_ifnullN hx hb hd (ztgt_eq ht) k
    · cases h
  · split at h
    · rename_i hl
      subst hl
      cases h; exact lv_ifnull hx hb hd k
    · cases h
  · split at h
    · rename_i hc
      cases ht : ztgt pc _ with
      | none => rw [ht] at h; cases h
      | some t => rw [ht] at h; cases h; exact lv_tableOut hx hb hd hc (ztgt_eq ht) k
    · rename_i hc
      split at h
      · cases h
      · rename_i o ho
        cases ht : ztgt pc o with
        | none => rw [ht] at h; cases h
        | some t => rw [ht] at h; cases h; exact lv_tableIn hx hb hd (fun q => hc (Or.inl q)) (fun q => hc (Or.inr q)) ho (ztgt_eq ht) k
  · split at h
    · rename_i hc
      cases ht : ztgt pc _ with
      | none => rw [ht] at h; cases h
      | some t => rw [ht] at h; cases h; exact lv_lookup hx hb hd hc rfl (ztgt_eq ht) k
    · cases h
  · cases h
end ZP
/-- the locals as the kit's rows have them -/
def zlv (ad : Nat → Nat) (ml : zML) : List (Nat × Value) := ml.zipIdx.filterMap (fun q => q.1.map (fun v => (q.2, ztr ad v)))
theorem zlv_mem {ad : Nat → Nat} {ml : zML} {q : Nat × Value} : q ∈ zlv ad ml ↔ ∃ v, ml[q.1]? = some (some v) ∧ q.2 = ztr ad v := by
  obtain ⟨j, x⟩ := q
  unfold zlv
  rw [List.mem_filterMap]
  constructor
  · rintro ⟨⟨o, i⟩, h1, h2⟩
    rw [List.mem_zipIdx_iff_getElem?] at h1
    cases o with
    | none => cases h2
    | some v =>
      simp only [Option.map_some, Option.some.injEq, Prod.mk.injEq] at h2
      obtain ⟨rfl, rfl⟩ := h2
      exact ⟨v, h1, rfl⟩
  · rintro ⟨v, h1, h2⟩
    refine ⟨(some v, j), ?_, ?_⟩
    · rw [List.mem_zipIdx_iff_getElem?]
      exact h1
    · simp only [Option.map_some]
      rw [← h2]
def zL (ad : Nat → Nat) (ml : zML) (ls : Array Slot) : Prop := lv_has ls ml.length (zlv ad ml)
theorem zL_get {ad : Nat → Nat} {ml : zML} {ls : Array Slot} (h : zL ad ml ls) {i : Nat} {v : Value} (hv : ml[i]? = some (some v)) : ls[i]? = some (.val (ztr ad v)) := h.2.2 (i, ztr ad v) (zlv_mem.mpr ⟨v, hv, rfl⟩)
theorem zclr_len (ml : zML) (i : Nat) : (zclr ml i).length = ml.length := by
  cases i with
  | zero => rfl
  | succ j =>
    simp only [zclr]
    split
    · split
      · simp
      · rfl
    · rfl
theorem zclr_get {ml : zML} {i j : Nat} {v : Value} (h : (zclr ml i)[j]? = some (some v)) : ml[j]? = some (some v) ∧ ¬ (j + 1 = i ∧ v.category = 2) := by
  cases i with
  | zero => exact ⟨h, fun q => by omega⟩
  | succ k =>
    simp only [zclr] at h
    split at h
    · rename_i w hw
      split at h
      · rename_i hc
        rw [List.getElem?_set] at h
        split at h
        · rename_i hk
          split at h
          · cases h
          · cases h
        · rename_i hk
          exact ⟨h, fun q => hk (by omega)⟩
      · rename_i hc
        refine ⟨h, fun q => ?_⟩
        have : k = j := by omega
        subst this
        rw [hw] at h
        cases h
        exact hc q.2
    · rename_i hw
      refine ⟨h, fun q => ?_⟩
      have : k = j := by omega
      subst this
      exact hw _ h
theorem zst_len {ml ml' : zML} {i : Nat} {v : Value} (h : zst ml i v = some ml') : ml'.length = ml.length := by
  unfold zst at h
  split at h <;> split at h <;> first | (cases h; simp [zclr_len]; done) | cases h
theorem zst1_sub {ad : Nat → Nat} {ml ml' : zML} {i : Nat} {v : Value} (h : zst ml i v = some ml') (hc : v.category = 1) {ls : Array Slot} {nL : Nat} (hl : lv_has ls nL ((i, ztr ad v) :: (zlv ad ml).filter (fun q => !(q.1 == i) && !(q.1 + 1 == i && q.2.category == 2)))) (hn : nL = ml'.length) : zL ad ml' ls := by
  refine ⟨hl.1.trans hn, hl.2.1, fun q hq => ?_⟩
  obtain ⟨w, h1, h2⟩ := zlv_mem.mp hq
  refine hl.2.2 q ?_
  unfold zst at h
  rw [if_pos hc] at h
  split at h
  · cases h
    rw [List.getElem?_set] at h1
    split at h1
    · rename_i hk
      split at h1
      · cases h1
        rw [show q = (i, ztr ad v) from by rw [← h2, hk]]
        exact List.mem_cons_self
      · cases h1
    · rename_i hk
      obtain ⟨g1, g2⟩ := zclr_get h1
      refine List.mem_cons_of_mem _ (List.mem_filter.mpr ⟨zlv_mem.mpr ⟨w, g1, h2⟩, ?_⟩)
      rw [h2, ztr_cat]
      have e1 : (q.1 == i) = false := by simp; exact fun z => hk z.symm
      rw [e1]
      simp only [Bool.not_false, Bool.true_and, Bool.not_eq_true', Bool.and_eq_false_iff, beq_eq_false_iff_ne]
      by_cases hz : q.1 + 1 = i
      · right
        exact fun z => g2 ⟨hz, z⟩
      · left
        exact hz
  · cases h
theorem zst2_sub {ad : Nat → Nat} {ml ml' : zML} {i : Nat} {v : Value} (h : zst ml i v = some ml') (hc : v.category = 2) {ls : Array Slot} {nL : Nat} (hl : lv_has ls nL ((i, ztr ad v) :: (zlv ad ml).filter (fun q => !(q.1 == i) && (!(q.1 == i + 1) && !(q.1 + 1 == i && q.2.category == 2))))) (hn : nL = ml'.length) : zL ad ml' ls := by
  refine ⟨hl.1.trans hn, hl.2.1, fun q hq => ?_⟩
  obtain ⟨w, h1, h2⟩ := zlv_mem.mp hq
  refine hl.2.2 q ?_
  unfold zst at h
  rw [if_neg (by rw [hc]; decide)] at h
  split at h
  · cases h
    rw [List.getElem?_set] at h1
    split at h1
    · split at h1 <;> cases h1
    · rename_i hk1
      rw [List.getElem?_set] at h1
      split at h1
      · rename_i hk
        split at h1
        · cases h1
          rw [show q = (i, ztr ad v) from by rw [← h2, hk]]
          exact List.mem_cons_self
        · cases h1
      · rename_i hk
        obtain ⟨g1, g2⟩ := zclr_get h1
        refine List.mem_cons_of_mem _ (List.mem_filter.mpr ⟨zlv_mem.mpr ⟨w, g1, h2⟩, ?_⟩)
        rw [h2, ztr_cat]
        have e1 : (q.1 == i) = false := by simp; exact fun z => hk z.symm
        have e2 : (q.1 == i + 1) = false := by simp; exact fun z => hk1 z.symm
        rw [e1, e2]
        simp only [Bool.not_false, Bool.true_and, Bool.not_eq_true', Bool.and_eq_false_iff, beq_eq_false_iff_ne]
        by_cases hz : q.1 + 1 = i
        · right
          exact fun z => g2 ⟨hz, z⟩
        · left
          exact hz
  · cases h
theorem zst_lt1 {ml ml' : zML} {i : Nat} {v : Value} (h : zst ml i v = some ml') (hc : v.category = 1) : i < ml.length := by
  unfold zst at h
  rw [if_pos hc] at h
  split at h
  · assumption
  · cases h
theorem zst_lt2 {ml ml' : zML} {i : Nat} {v : Value} (h : zst ml i v = some ml') (hc : v.category = 2) : i + 1 < ml.length := by
  unfold zst at h
  rw [if_neg (by rw [hc]; decide)] at h
  split at h
  · assumption
  · cases h
section ZP2
variable {p : Program} {l : Launch} {e : Env} {R : Room} {s : State} {m : MethodId} {args : Array Value} {below : List Frame} {meth : Method} {c : Code} {H : Heap} {locs : List Loc} {cells slots : Nat} {Q : State → Prop} {cc : ByteArray} {pc : Nat} {ls : Array Slot} {ad : Nat → Nat}
theorem zloc_sim (hx : p.tables.exec = Jvm.exec) (hb : c.code = cc) {i : Instr} {len n : Nat} {ml ml' : zML} {st st' : List Value} (hd : decode cc pc = .ok (i, len)) (h : zloc i ml st = some (n, ml', st')) (hn : n = len) (hl : zL ad ml ls)
    (k : ∀ ls', zL ad ml' ls' → W p l e R s m args below meth c H locs cells slots Q (F0 m (pc + len) ls' (st'.map (ztr ad)))) : W p l e R s m args below meth c H locs cells slots Q (F0 m pc ls (st.map (ztr ad))) := by
  subst hn
  unfold zloc at h
  split at h
  · split at h
    · rename_i hv; cases h; exact lv_iload_n hx hb hd rfl (zL_get hl hv) (k _ hl)
    · cases h
  · split at h
    · rename_i hv; cases h; exact lv_iload hx hb hd (zL_get hl hv) (k _ hl)
    · cases h
  · split at h
    · rename_i hv; cases h; exact lv_lload_n hx hb hd rfl (zL_get hl hv) (k _ hl)
    · cases h
  · split at h
    · rename_i hv; cases h; exact lv_lload hx hb hd (zL_get hl hv) (k _ hl)
    · cases h
  · split at h
    · rename_i hv; cases h; exact lv_aload_n hx hb hd rfl (zL_get hl hv) (k _ hl)
    · rename_i hv; cases h; exact lv_aload_nN hx hb hd rfl (zL_get hl hv) (k _ hl)
    · cases h
  · split at h
    · rename_i hv; cases h; exact lv_aload hx hb hd (zL_get hl hv) (k _ hl)
    · rename_i hv; cases h; exact lv_aloadN hx hb hd (zL_get hl hv) (k _ hl)
    · cases h
  · cases hz : zst ml _ _ with
    | none => rw [hz] at h; cases h
    | some q => rw [hz] at h; cases h; exact lv_istore_n hx hb hd rfl hl (zst_lt1 hz rfl) rfl (fun ls' hl' => k ls' (zst1_sub hz rfl hl' (zst_len hz).symm))
  · cases hz : zst ml _ _ with
    | none => rw [hz] at h; cases h
    | some q => rw [hz] at h; cases h; exact lv_istore hx hb hd hl (zst_lt1 hz rfl) rfl (fun ls' hl' => k ls' (zst1_sub hz rfl hl' (zst_len hz).symm))
  · cases hz : zst ml _ _ with
    | none => rw [hz] at h; cases h
    | some q => rw [hz] at h; cases h; exact lv_lstore_n hx hb hd rfl hl (zst_lt2 hz rfl) rfl (fun ls' hl' => k ls' (zst2_sub hz rfl hl' (zst_len hz).symm))
  · cases hz : zst ml _ _ with
    | none => rw [hz] at h; cases h
    | some q => rw [hz] at h; cases h; exact lv_lstore hx hb hd hl (zst_lt2 hz rfl) rfl (fun ls' hl' => k ls' (zst2_sub hz rfl hl' (zst_len hz).symm))
  · cases hz : zst ml _ _ with
    | none => rw [hz] at h; cases h
    | some q => rw [hz] at h; cases h; exact lv_astore_n hx hb hd rfl hl (zst_lt1 hz rfl) rfl (fun ls' hl' => k ls' (zst1_sub hz rfl hl' (zst_len hz).symm))
  · cases hz : zst ml _ _ with
    | none => rw [hz] at h; cases h
    | some q => rw [hz] at h; cases h; exact lv_astore_nN hx hb hd rfl hl (zst_lt1 hz rfl) rfl (fun ls' hl' => k ls' (zst1_sub (v := .null) hz rfl hl' (zst_len hz).symm))
  · cases hz : zst ml _ _ with
    | none => rw [hz] at h; cases h
    | some q => rw [hz] at h; cases h; exact lv_astore hx hb hd hl (zst_lt1 hz rfl) rfl (fun ls' hl' => k ls' (zst1_sub hz rfl hl' (zst_len hz).symm))
  · cases hz : zst ml _ _ with
    | none => rw [hz] at h; cases h
    | some q => rw [hz] at h; cases h; exact lv_astoreN hx hb hd hl (zst_lt1 hz rfl) rfl (fun ls' hl' => k ls' (zst1_sub (v := .null) hz rfl hl' (zst_len hz).symm))
  · split at h
    · rename_i kk nn x hv
      cases hz : zst ml _ _ with
      | none => rw [hz] at h; cases h
      | some q =>
        rw [hz] at h
        cases h
        obtain ⟨j, hj⟩ := List.getElem?_of_mem (zlv_mem (ad := ad) (q := (_, ztr ad (.int x))).mpr ⟨_, hv, rfl⟩)
        exact lv_iinc hx hb hd hl hj rfl (zst_lt1 hz rfl) rfl (fun ls' hl' => k ls' (zst1_sub hz rfl hl' (zst_len hz).symm))
    · cases h
  · cases h
end ZP2
