/-! steps and runs of the small machine are the machine's -/
def zMle (M M' : zM) : Prop := M.length ≤ M'.length ∧ zsl M ≤ zsl M'
theorem zMle.rf {M : zM} : zMle M M := ⟨Nat.le_refl _, Nat.le_refl _⟩
theorem zMle.tr {A B C : zM} (h : zMle A B) (h2 : zMle B C) : zMle A C := ⟨Nat.le_trans h.1 h2.1, Nat.le_trans h.2 h2.2⟩
theorem zMle.set {M : zM} {a : Nat} {x y : zE} (h : M[a]? = some x) (e : y.2.length = x.2.length) : zMle M (M.set a y) := ⟨by rw [List.length_set]; exact Nat.le_refl _, by rw [zsl_set h e]; exact Nat.le_refl _⟩
theorem zMle.app {M : zM} {x : zE} : zMle M (M ++ [x]) := ⟨by simp, by rw [zsl_app]; omega⟩
theorem zmem_mono {own : Nat} {ini : Bool} {X : List Int32} {i : Instr} {st st' : List Value} {M M' : zM} {n : Nat} (h : zmem own ini X i st M = some (n, st', M')) : zMle M M' := by
  unfold zmem at h
  split at h
  · split at h
    · split at h
      · rw [Option.map_eq_some_iff] at h
        obtain ⟨v, hv, hq⟩ := h
        cases hq
        exact zMle.rf
      · cases h
    · cases h
  · split at h
    · split at h
      · rename_i ha
        split at h
        · cases h
          exact zMle.set (zarr_some ha) (by simp)
        · cases h
      · cases h
    · cases h
  · split at h
    · split at h
      · cases h
      · cases h
        exact zMle.rf
    · rw [Option.map_eq_some_iff] at h
      obtain ⟨st1, hz, hq⟩ := h
      cases hq
      exact zMle.rf
  · rw [Option.map_eq_some_iff] at h
    obtain ⟨st1, hz, hq⟩ := h
    cases hq
    exact zMle.rf
  · rw [Option.map_eq_some_iff] at h
    obtain ⟨st1, hz, hq⟩ := h
    cases hq
    exact zMle.rf
  · rw [Option.map_eq_some_iff] at h
    obtain ⟨st1, hz, hq⟩ := h
    cases hq
    exact zMle.rf
  · rw [Option.map_eq_some_iff] at h
    obtain ⟨⟨st1, M1⟩, hz, hq⟩ := h
    cases hq
    obtain ⟨j, a, vs, rfl, ha, hin, rfl⟩ := zast_inv hz
    exact zMle.set (zarr_some ha) (by simp)
  · rw [Option.map_eq_some_iff] at h
    obtain ⟨⟨st1, M1⟩, hz, hq⟩ := h
    cases hq
    obtain ⟨j, a, vs, rfl, ha, hin, rfl⟩ := zast_inv hz
    exact zMle.set (zarr_some ha) (by simp)
  · split at h
    · rw [Option.map_eq_some_iff] at h
      obtain ⟨⟨st1, M1⟩, hz, hq⟩ := h
      cases hq
      obtain ⟨j, a, vs, rfl, ha, hin, rfl⟩ := zast_inv hz
      exact zMle.set (zarr_some ha) (by simp)
    · cases h
  · split at h
    · rw [Option.map_eq_some_iff] at h
      obtain ⟨⟨st1, M1⟩, hz, hq⟩ := h
      cases hq
      obtain ⟨j, a, vs, rfl, ha, hin, rfl⟩ := zast_inv hz
      exact zMle.set (zarr_some ha) (by simp)
    · cases h
  · split at h
    · split at h
      · cases h
        exact zMle.rf
      · cases h
    · split at h
      · split at h
        · cases h
          exact zMle.rf
        · cases h
      · cases h
  · split at h
    · split at h
      · cases h
        exact zMle.app
      · cases h
    · cases h
  · split at h
    · split at h
      · cases h
        exact zMle.app
      · cases h
    · cases h
  · split at h
    · cases h
      exact zMle.app
    · cases h
  · split at h
    · cases h
      exact zMle.rf
    · split at h
      · cases h
        exact zMle.rf
      · cases h
  · split at h
    · cases h
      exact zMle.rf
    · cases h
  · split at h
    · cases h
      exact zMle.rf
    · cases h
  · cases h
theorem zacpy_mono {st st' : List Value} {M M' : zM} (h : zacpy M st = some (st', M')) : zMle M M' := by
  unfold zacpy at h
  split at h
  · split at h
    · rename_i hb0 ha0
      split at h
      · rename_i hq
        obtain ⟨rfl, hkd, h1, h2, h3, h4, h5, hall, hcat⟩ := hq
        cases h
        exact zMle.set ha0 (zcpy_len h4 h5)
      · cases h
    · cases h
  · cases h
theorem zinv_mono {own : Nat} {call : Nat → List Value → zM → Option zRes} (hcall : ∀ j vs M r, call j vs M = some r → zMle M r.2) {i : Instr} {st st' : List Value} {M M' : zM} (h : zinv own call i st M = some (st', M')) : zMle M M' := by
  have key : ∀ {j : Nat} {vs r : List Value}, (call j vs M).map (fun q => (q.1.toList ++ r, q.2)) = some (st', M') → zMle M M' := by
    intro j vs r h
    rw [Option.map_eq_some_iff] at h
    obtain ⟨⟨v, M1⟩, hcv, hq2⟩ := h
    cases hq2
    exact hcall _ _ _ _ hcv
  unfold zinv at h
  split at h
  · split at h
    · split at h
      · split at h
        · split at h
          · split at h
            · exact key h
            · cases h
          · cases h
        · cases h
      · cases h
    · split at h
      · split at h
        · exact key h
        · cases h
      · cases h
    · split at h
      · split at h
        · exact key h
        · cases h
      · cases h
    · split at h
      · split at h
        · exact key h
        · cases h
      · cases h
    · cases h
  · split at h
    · split at h
      · split at h
        · exact key h
        · cases h
      · cases h
    · split at h
      · split at h
        · cases h
          exact zMle.rf
        · cases h
      · cases h
    · split at h
      · split at h
        · cases h
          exact zMle.rf
        · cases h
      · cases h
    · exact zacpy_mono h
    · cases h
  · split at h
    · split at h
      · split at h
        · split at h
          · exact key h
          · cases h
        · cases h
      · cases h
    · split at h
      · split at h
        · split at h
          · exact key h
          · cases h
        · cases h
      · cases h
    · split at h
      · split at h
        · cases h
          exact zMle.rf
        · cases h
      · cases h
    · cases h
  · cases h
theorem zstep_mono {own : Nat} {ini : Bool} {ret : Option FieldType} {cc : ByteArray} {X : List Int32} {call : Nat → List Value → zM → Option zRes} (hcall : ∀ j vs M r, call j vs M = some r → zMle M r.2) {st : zS} {o : zS ⊕ zRes} (h : zstep own ini ret cc X call st = some o) : (∀ s', o = .inl s' → zMle st.2.2.2 s'.2.2.2) ∧ ∀ r, o = .inr r → r.2 = st.2.2.2 := by
  unfold zstep at h
  split at h
  · cases h
  · split at h
    · split at h
      · cases h
        exact ⟨fun s' e => (by cases e), fun r e => (by cases e; rfl)⟩
      · cases h
    · split at h
      · split at h
        · cases h
          exact ⟨fun s' e => by cases e; exact zMle.rf, fun r e => by cases e⟩
        · cases h
      · split at h
        · cases h
          exact ⟨fun s' e => by cases e; exact zMle.rf, fun r e => by cases e⟩
        · split at h
          · split at h
            · cases h
              exact ⟨fun s' e => by cases e; exact zMle.rf, fun r e => by cases e⟩
            · cases h
          · split at h
            · rename_i hz
              split at h
              · cases h
                exact ⟨fun s' e => by cases e; exact zmem_mono hz, fun r e => by cases e⟩
              · cases h
            · split at h
              · rename_i hz
                split at h
                · cases h
                  exact ⟨fun s' e => by cases e; exact zinv_mono hcall hz, fun r e => by cases e⟩
                · cases h
              · cases h
theorem zloop_mono {f : zS → Option (zS ⊕ zRes)} (hf : ∀ st o, f st = some o → (∀ s', o = .inl s' → zMle st.2.2.2 s'.2.2.2) ∧ ∀ r, o = .inr r → r.2 = st.2.2.2) : ∀ (n : Nat) (st : zS) (r : zRes), zloop f n st = some r → zMle st.2.2.2 r.2 := by
  intro n
  induction n with
  | zero => intro st r h; cases h
  | succ n ih =>
    intro st r h
    unfold zloop at h
    split at h
    · cases h
    · rename_i s' hs
      exact ((hf _ _ hs).1 s' rfl).tr (ih s' r h)
    · rename_i r' hs
      cases h
      rw [(hf _ _ hs).2 _ rfl]
      exact zMle.rf
theorem zprm_mono {j : Nat} {vs : List Value} {M : zM} {r : zRes} (h : zprm j vs M = some r) : r.2 = M := by
  unfold zprm at h
  split at h <;> first | (split at h <;> cases h <;> rfl) | cases h
theorem zev_mono (X : List Int32) (F : Nat) : ∀ (d j : Nat) (vs : List Value) (M : zM) (r : zRes), zev X F d j vs M = some r → zMle M r.2 := by
  intro d
  induction d with
  | zero => intro j vs M r h; cases h
  | succ d ih =>
    intro j vs M r h
    unfold zev at h
    split at h
    · split at h
      · rw [zprm_mono h]
        exact zMle.rf
      · cases h
    · split at h
      · exact zloop_mono (fun st o ho => zstep_mono ih ho) F _ r h
      · cases h
theorem zloc_len {i : Instr} {n : Nat} {ml ml' : zML} {st st' : List Value} (h : zloc i ml st = some (n, ml', st')) : ml'.length = ml.length := by
  have key : ∀ {k : Nat} {v : Value} {n0 : Nat} {s0 : List Value}, (zst ml k v).map (fun ml' => (n0, ml', s0)) = some (n, ml', st') → ml'.length = ml.length := by
    intro k v n0 s0 h
    rw [Option.map_eq_some_iff] at h
    obtain ⟨q, hz, hq⟩ := h
    cases hq
    exact zst_len hz
  unfold zloc at h
  split at h
  · split at h <;> cases h; rfl
  · split at h <;> cases h; rfl
  · split at h <;> cases h; rfl
  · split at h <;> cases h; rfl
  · split at h <;> cases h <;> rfl
  · split at h <;> cases h <;> rfl
  · exact key h
  · exact key h
  · exact key h
  · exact key h
  · exact key h
  · exact key h
  · exact key h
  · exact key h
  · split at h
    · exact key h
    · cases h
  · cases h
section ZR5
variable {p : Program} {l : Launch} {e : Env} {R : Room} {s : State} {m : MethodId} {args : Array Value} {below : List Frame} {meth : Method} {c : Code} {cells slots : Nat} {Q : State → Prop} {cc : ByteArray}
variable {D : va_G} {cy : Nat → ClassId} {g : Nat → Nat} {base : Nat} {G : Heap} {X : List Int32} {own d : Nat} {ini : Bool} {ret : Option FieldType} {call : Nat → List Value → zM → Option zRes}
theorem zstep_sim (hx : p.tables.exec = Jvm.exec) (hb : c.code = cc) (hts : ∀ w ∈ zW, w.before args s = true) (hown : s.vm.findClass (zcn own) = some m.cls) (hK : zKn D cy g base G X s) (hini : ini = true → meth.name = "<init>") (hcall : zCallOK l D cy g base G X d call) (hstr : zStrOK l D cy g base G X) (hfr : d + 1 ≤ R.frames) (hlo : 40 * (d + 1) ≤ R.locals)
    {st st' : zS} (h : zstep own ini ret cc X call st = some (.inl st')) {H : Heap} {locs : List Loc} {ls : Array Slot} (hR : zR D cy g base G st.2.2.2 H) (hLo : zLo base locs) (hl : zL (zad g base) st.2.1 ls) (hml : c.maxLocals = st.2.1.length) (hc : cells + st'.2.2.2.length ≤ R.cells + st.2.2.2.length) (hs : slots + zsl st'.2.2.2 ≤ R.slots + zsl st.2.2.2) (hc0 : cells ≤ R.cells) (hs0 : slots ≤ R.slots)
    (kk : ∀ H' locs' cells' slots' ls', zR D cy g base G st'.2.2.2 H' → zLo base locs' → zL (zad g base) st'.2.1 ls' → st'.2.1.length = st.2.1.length → cells' + st.2.2.2.length = cells + st'.2.2.2.length → slots' + zsl st.2.2.2 = slots + zsl st'.2.2.2 → W p l e R s m args below meth c H' locs' cells' slots' Q (F0 m st'.1 ls' (st'.2.2.1.map (ztr (zad g base))))) : W p l e R s m args below meth c H locs cells slots Q (F0 m st.1 ls (st.2.2.1.map (ztr (zad g base)))) := by
  unfold zstep at h
  split at h
  · cases h
  · rename_i i len hd
    split at h
    · split at h <;> cases h
    · split at h
      · rename_i hz
        split at h
        · rename_i hn
          cases h
          exact zpure_sim hx hb hd hz hn (kk H locs cells slots ls hR hLo hl rfl rfl rfl)
        · cases h
      · split at h
        · rename_i hz
          cases h
          exact zbr_sim hx hb hd hz (kk H locs cells slots ls hR hLo hl rfl rfl rfl)
        · split at h
          · rename_i hz
            split at h
            · rename_i hn
              cases h
              exact zloc_sim hx hb hd hz hn hl (fun ls' hl' => kk H locs cells slots ls' hR hLo hl' (zloc_len hz) rfl rfl)
            · cases h
          · split at h
            · rename_i hz
              split at h
              · rename_i hn
                cases h
                exact zmem_sim hx hb hts hown hK hini hR hLo hd hz hn hc hs (fun H' locs' cells' slots' g1 g2 g3 g4 => kk H' locs' cells' slots' ls g1 g2 hl rfl g3 g4)
              · cases h
            · split at h
              · rename_i hz
                split at h
                · rename_i hn
                  subst hn
                  cases h
                  exact zinv_sim hx hb (by rw [hml]; exact hl.1.symm) hts hown hK hcall hstr hfr hlo hR hLo hd hz hc hs hc0 hs0 (fun H' locs' cells' slots' g1 g2 g3 g4 => kk H' locs' cells' slots' ls g1 g2 hl rfl g3 g4)
                · cases h
              · cases h
/-- the end of a run: the machine stands at a return -/
theorem zstep_end {st : zS} {r : zRes} (h : zstep own ini ret cc X call st = some (.inr r)) : ∃ i, decode cc st.1 = .ok (i, 1) ∧ zret ret i st.2.2.1 = some r.1 ∧ r.2 = st.2.2.2 := by
  unfold zstep at h
  split at h
  · cases h
  · rename_i i len hd
    split at h
    · rename_i v hz
      split at h
      · rename_i hn
        subst hn
        cases h
        exact ⟨i, hd, hz, rfl⟩
      · cases h
    · split at h
      · split at h <;> cases h
      · split at h
        · cases h
        · split at h
          · split at h <;> cases h
          · split at h
            · split at h <;> cases h
            · split at h
              · split at h <;> cases h
              · cases h
theorem zloop_sim (hx : p.tables.exec = Jvm.exec) (hb : c.code = cc) (hts : ∀ w ∈ zW, w.before args s = true) (hown : s.vm.findClass (zcn own) = some m.cls) (hK : zKn D cy g base G X s) (hini : ini = true → meth.name = "<init>") (hcall : zCallOK l D cy g base G X d call) (hstr : zStrOK l D cy g base G X) (hfr : d + 1 ≤ R.frames) (hlo : 40 * (d + 1) ≤ R.locals) {c0 s0 : Nat} {r : zRes} (hc : r.2.length ≤ R.cells + c0) (hs : zsl r.2 ≤ R.slots + s0)
    (fin : ∀ (st : zS) (i : Instr) (H : Heap) (locs : List Loc) (cells slots : Nat) (ls : Array Slot), decode cc st.1 = .ok (i, 1) → zret ret i st.2.2.1 = some r.1 → st.2.2.2 = r.2 → zR D cy g base G r.2 H → zLo base locs → cells + c0 = r.2.length → slots + s0 = zsl r.2 → W p l e R s m args below meth c H locs cells slots Q (F0 m st.1 ls (st.2.2.1.map (ztr (zad g base))))) :
    ∀ (F : Nat) (st : zS), zloop (zstep own ini ret cc X call) F st = some r → ∀ (H : Heap) (locs : List Loc) (cells slots : Nat) (ls : Array Slot), zR D cy g base G st.2.2.2 H → zLo base locs → zL (zad g base) st.2.1 ls → c.maxLocals = st.2.1.length → cells + c0 = st.2.2.2.length → slots + s0 = zsl st.2.2.2 → W p l e R s m args below meth c H locs cells slots Q (F0 m st.1 ls (st.2.2.1.map (ztr (zad g base)))) := by
  have hcm : ∀ j vs M r, call j vs M = some r → zMle M r.2 := fun j vs M r h => (hcall j vs M r h).2.2
  intro F
  induction F with
  | zero => intro st h; cases h
  | succ F ih =>
    intro st h H locs cells slots ls hR hLo hl hml e1 e2
    have hm0 := zloop_mono (fun st o ho => zstep_mono hcm ho) (F + 1) st r h
    unfold zloop at h
    split at h
    · cases h
    · rename_i st' hst
      have hm1 := (zstep_mono hcm hst).1 st' rfl
      have hm2 := zloop_mono (fun st o ho => zstep_mono hcm ho) F st' r h
      have a1 := hm0.1
      have a2 := hm0.2
      have b1 := hm1.1
      have b2 := hm1.2
      have d1 := hm2.1
      have d2 := hm2.2
      exact zstep_sim hx hb hts hown hK hini hcall hstr hfr hlo hst hR hLo hl hml (by omega) (by omega) (by omega) (by omega) (fun H' locs' cells' slots' ls' g1 g2 g3 g4 g5 g6 => ih st' h H' locs' cells' slots' ls' g1 g2 g3 (by rw [g4]; exact hml) (by omega) (by omega))
    · rename_i r' hst
      cases h
      obtain ⟨i, h1, h2, h3⟩ := zstep_end hst
      exact fin st i H locs cells slots ls h1 h2 h3.symm (by rw [h3]; exact hR) hLo (by rw [h3]; exact e1) (by rw [h3]; exact e2)
end ZR5
theorem zargs_lv (ad : Nat → Nat) : ∀ (vs : List Value) (k j : Nat) (v : Value), (zargs vs)[j]? = some (some v) → (k + j, ztr ad v) ∈ lv_args k (vs.map (ztr ad)) := by
  intro vs
  induction vs with
  | nil => intro k j v h; simp [zargs] at h
  | cons w vs ih =>
    intro k j v h
    have e : zargs (w :: vs) = (if w.category = 2 then [some w, none] else [some w]) ++ zargs vs := rfl
    rw [e] at h
    show _ ∈ lv_args k (ztr ad w :: vs.map (ztr ad))
    unfold lv_args
    rw [ztr_cat]
    by_cases hc : w.category = 2
    · rw [if_pos hc] at h
      rcases j with _ | _ | j
      · cases h; exact List.mem_cons_self
      · cases h
      · have h1 : (zargs vs)[j]? = some (some v) := h
        have := ih (k + 2) j v h1
        rw [show k + 2 + j = k + (j + 1 + 1) by omega] at this
        rw [if_pos hc]
        exact List.mem_cons_of_mem _ this
    · rw [if_neg hc] at h
      rcases j with _ | j
      · cases h; exact List.mem_cons_self
      · have h1 : (zargs vs)[j]? = some (some v) := h
        have := ih (k + 1) j v h1
        rw [show k + 1 + j = k + (j + 1) by omega] at this
        rw [if_neg hc]
        exact List.mem_cons_of_mem _ this
theorem zargs_len (ad : Nat → Nat) (vs : List Value) : (lg_sl (vs.map (ztr ad))).length = (zargs vs).length := by
  induction vs with
  | nil => rfl
  | cons w vs ih =>
    show ((if (ztr ad w).category = 2 then [Slot.val (ztr ad w), .second] else [.val (ztr ad w)]) ++ lg_sl (vs.map (ztr ad))).length = ((if w.category = 2 then [some w, none] else [some w]) ++ zargs vs).length
    rw [ztr_cat, List.length_append, List.length_append, ih]
    by_cases hc : w.category = 2
    · rw [if_pos hc, if_pos hc]; rfl
    · rw [if_neg hc, if_neg hc]; rfl
theorem zent_len {vs : List Value} {n : Nat} (h : (zargs vs).length ≤ n) : (zent vs n).length = n := by
  unfold zent
  rw [List.length_append, List.length_replicate]
  omega
theorem zent_L (ad : Nat → Nat) {vs : List Value} {n : Nat} (h : (zargs vs).length ≤ n) : zL ad (zent vs n) ((lg_sl (vs.map (ztr ad)) ++ List.replicate (n - (lg_sl (vs.map (ztr ad))).length) Slot.unset).toArray) := by
  have h0 := lv_entry (vs.map (ztr ad)) (n := n) (by rw [zargs_len]; exact h)
  refine ⟨by rw [zent_len h]; exact h0.1, h0.2.1, fun q hq => h0.2.2 q ?_⟩
  obtain ⟨v, h1, h2⟩ := zlv_mem.mp hq
  have h3 : (zargs vs)[q.1]? = some (some v) := by
    unfold zent at h1
    rw [List.getElem?_append] at h1
    split at h1
    · exact h1
    · rw [List.getElem?_replicate] at h1
      split at h1 <;> cases h1
  have h4 := zargs_lv ad vs 0 q.1 v h3
  rw [Nat.zero_add, ← h2] at h4
  exact h4
set_option maxHeartbeats 4000000 in
/-- EVERY RUN OF THE SMALL MACHINE IS A CONTRACT OF THE MACHINE'S -/
theorem zev_met {l : Launch} {D : va_G} {cy : Nat → ClassId} {g : Nat → Nat} {base : Nat} {G : Heap} {X : List Int32} (hstr : zStrOK l D cy g base G X) (F : Nat) : ∀ d : Nat, zCallOK l D cy g base G X d (zev X F d) := by
  intro d
  induction d with
  | zero => intro j vs M r h; cases h
  | succ d ih =>
    intro j vs M r h
    refine ⟨fun ci na y cc ml ret pos hz => ?_, fun hz => ?_, zev_mono X F _ _ _ _ _ h⟩
    · have hmo := zev_mono X F _ _ _ _ _ h
      unfold zev at h
      rw [hz] at h
      dsimp only at h
      split at h
      · rename_i hal
        obtain ⟨q1, q2, q3, q4, q5, q6, q7⟩ := zmt_ok hz
        unfold zMet
        refine Met.ofW (cc := cc) (maxL := ml) (ret := ret) q3 rfl ?_
        intro p e s m args below meth c s₁ B hml hv
        obtain ⟨rfl, hR, hK⟩ := hv
        have hx := B.exec
        have hb := B.bytes
        have hr := B.returns
        have hts0 := atoms_spec (ws := zws y cc ml ret) B.pre
        have hts : ∀ w ∈ zW, w.before ((vs.map (ztr (zad g base))).toArray) s = true := fun w hw => hts0 w (List.mem_cons_of_mem _ hw)
        have hown : s.vm.findClass (zcn ci) = some m.cls := by rw [← q2]; exact findClass_of_methodNamed B.named
        have hlocks := B.notSynchronized
        have hname : meth.name = y.name := (name_of_methodNamed B.named B.method).1
        have a1 := hmo.1
        have a2 := hmo.2
        rw [lg_entry_eq]
        refine zloop_sim (own := ci) (ini := decide (y.name = "<init>")) (ret := ret) (call := zev X F d) (d := d) (r := r) (c0 := M.length) (s0 := zsl M) hx hb hts hown hK (fun hi => by rw [hname]; exact of_decide_eq_true hi) ih hstr ?_ ?_ ?_ ?_ ?_ F (0, zent vs ml, [], M) h s.heap [] 0 0 _ hR (fun q hq => by cases hq) (zent_L _ hal) (by rw [hml]; exact (zent_len hal).symm) (Nat.zero_add _) (Nat.zero_add _)
        · exact Nat.le_refl _
        · exact Nat.le_refl _
        · show _ ≤ (r.2.length - M.length) + M.length; omega
        · show _ ≤ (zsl r.2 - zsl M) + zsl M; omega
        · intro st i H locs cells slots ls hd hzr hst hR2 hLo e1 e2
          obtain rfl : cells = r.2.length - M.length := by omega
          obtain rfl : slots = zsl r.2 - zsl M := by omega
          obtain ⟨pc, ml2, stk, M2⟩ := st
          dsimp only at hd hzr hst ⊢
          have hqq : ∀ t : State, t.heap = H → s.WarmedH t.vm → zQc D cy g base G r ((vs.map (ztr (zad g base))).toArray) s (.returned (r.1.map (ztr (zad g base)))) t := fun t ht _ => ⟨rfl, by rw [ht]; exact hR2⟩
          unfold zret at hzr
          split at hzr
          · split at hzr
            · split at hzr
              · rename_i hn
                have e3 := Option.some.inj hzr
                rw [← e3] at hqq
                exact W.zret hx hb hr hn hqq hLo hd
              · cases hzr
            · cases hzr
          · split at hzr
            · rename_i hty
              have e3 := Option.some.inj hzr
              rw [← e3] at hqq
              exact W.lret hx hb (hr.trans hty) hqq hLo hd
            · cases hzr
          · split at hzr
            · rename_i hty
              have e3 := Option.some.inj hzr
              rw [← e3] at hqq
              exact W.vret hx hb (hr.trans hty) hqq hLo hd
            · cases hzr
          · cases hzr
      · cases h
    · unfold zev at h
      rw [hz] at h
      dsimp only at h
      split at h
      · rename_i h4
        exact ⟨h, h4⟩
      · cases h
