/-! FRAME: a run that begins within a closed set of cells leaves all other cells as they are -/
def vok (S : Nat → Prop) : Value → Prop
  | .ref a => S a
  | _ => True
def aok (S : Nat → Prop) (st : List Value) : Prop := ∀ v ∈ st, vok S v
def lok (S : Nat → Prop) (ml : zML) : Prop := ∀ v, some v ∈ ml → vok S v
def mok (S : Nat → Prop) (M0 M : zM) : Prop := M0.length ≤ M.length ∧ (∀ a c, S a → M[a]? = some c → aok S c.2) ∧ ∀ a, ¬ S a → M[a]? = M0[a]?
theorem vok_int {S : Nat → Prop} {x : Int32} : vok S (.int x) ↔ True := Iff.rfl
theorem vok_long {S : Nat → Prop} {x : Int64} : vok S (.long x) ↔ True := Iff.rfl
theorem vok_null {S : Nat → Prop} : vok S .null ↔ True := Iff.rfl
theorem aok_cons {S : Nat → Prop} {v : Value} {st : List Value} : aok S (v :: st) ↔ vok S v ∧ aok S st := by
  unfold aok
  rw [List.forall_mem_cons]
theorem aok_nil {S : Nat → Prop} : aok S [] ↔ True := ⟨fun _ => trivial, fun _ v h => absurd h List.not_mem_nil⟩
theorem fpure {S : Nat → Prop} {i : Instr} {st st' : List Value} {n : Nat} (h : zpure i st = some (n, st')) (hs : aok S st) : aok S st' := by
  unfold zpure at h
  split at h
  all_goals try (split at h)
  all_goals try (split at h)
  all_goals try (split at h)
  all_goals cases h
  all_goals try simp only [aok_cons, vok_int, vok_long, vok_null, true_and] at hs ⊢
  all_goals try exact hs
  all_goals first | exact ⟨hs.1, hs⟩ | exact hs.2 | exact ⟨hs.1, hs.2.1, hs⟩
theorem fbr {S : Nat → Prop} {i : Instr} {pc len : Nat} {st st' : List Value} {n : Nat} (h : zbr i pc len st = some (n, st')) (hs : aok S st) : aok S st' := by
  unfold zbr at h
  split at h
  all_goals try (split at h)
  all_goals try (split at h)
  all_goals try (split at h)
  all_goals try (rw [Option.map_eq_some_iff] at h; obtain ⟨t, h1, h⟩ := h)
  all_goals cases h
  all_goals try simp only [aok_cons, vok_int, vok_long, vok_null, true_and] at hs ⊢
  all_goals try exact hs
  all_goals exact hs.2
theorem lok_set {S : Nat → Prop} {ml : zML} {i : Nat} {w : Option Value} (h : lok S ml) (hw : ∀ v, w = some v → vok S v) : lok S (ml.set i w) := by
  intro v hv
  rcases List.mem_or_eq_of_mem_set hv with q | q
  · exact h v q
  · exact hw v q.symm
theorem lok_st {S : Nat → Prop} {ml ml' : zML} {i : Nat} {v : Value} (h : zst ml i v = some ml') (hl : lok S ml) (hv : vok S v) : lok S ml' := by
  have hc : ∀ j, lok S (zclr ml j) := by
    intro j
    cases j with
    | zero => exact hl
    | succ j =>
      have e : zclr ml (j + 1) = match ml[j]? with
        | some (some w) => if w.category = 2 then ml.set j none else ml
        | _ => ml := rfl
      rw [e]
      split
      · split
        · exact lok_set hl (fun v z => by cases z)
        · exact hl
      · exact hl
  unfold zst at h
  split at h
  · split at h
    · cases h
      exact lok_set (hc _) (fun w z => by cases z; exact hv)
    · cases h
  · split at h
    · cases h
      exact lok_set (lok_set (hc _) (fun w z => by cases z; exact hv)) (fun w z => by cases z)
    · cases h
theorem floc {S : Nat → Prop} {i : Instr} {ml ml' : zML} {st st' : List Value} {n : Nat} (h : zloc i ml st = some (n, ml', st')) (hl : lok S ml) (hs : aok S st) : lok S ml' ∧ aok S st' := by
  have hm : ∀ k v, ml[k]? = some (some v) → vok S v := fun k v e => hl v (List.mem_of_getElem? e)
  unfold zloc at h
  split at h
  all_goals try (split at h)
  all_goals try (rw [Option.map_eq_some_iff] at h; obtain ⟨m2, h1, h⟩ := h)
  all_goals cases h
  all_goals try simp only [aok_cons, vok_int, vok_long, vok_null, true_and] at hs ⊢
  all_goals first
    | exact ⟨hl, hs⟩
    | exact ⟨hl, hm _ _ (by assumption), hs⟩
    | exact ⟨lok_st h1 hl trivial, hs⟩
    | exact ⟨lok_st h1 hl hs.1, hs.2⟩
theorem mok_get {S : Nat → Prop} {M0 M : zM} (h : mok S M0 M) {a kind : Nat} {vs : List Value} (ha : S a) (e : zarr M a kind = some vs) : M[a]? = some (kind, vs) ∧ aok S vs := by
  unfold zarr at e
  split at e
  · rename_i c ws q
    split at e
    · rename_i z
      cases e
      subst z
      exact ⟨q, h.2.1 a _ ha q⟩
    · cases e
  · cases e
theorem mok_set {S : Nat → Prop} {M0 M : zM} (h : mok S M0 M) {a kind : Nat} {vs : List Value} (ha : S a) (hv : aok S vs) : mok S M0 (M.set a (kind, vs)) := by
  obtain ⟨h1, h2, h3⟩ := h
  refine ⟨by rw [List.length_set]; exact h1, fun b c hb e => ?_, fun b hb => ?_⟩
  · rw [List.getElem?_set] at e
    split at e
    · split at e
      · cases e
        exact hv
      · cases e
    · exact h2 b c hb e
  · rw [List.getElem?_set, if_neg (fun z : a = b => hb (z ▸ ha))]
    exact h3 b hb
theorem mok_add {S : Nat → Prop} {M0 M : zM} (hS : ∀ a, M0.length ≤ a → S a) (h : mok S M0 M) {c : zE} (hv : aok S c.2) : mok S M0 (M ++ [c]) := by
  obtain ⟨h1, h2, h3⟩ := h
  refine ⟨by rw [List.length_append]; omega, fun b d hb e => ?_, fun b hb => ?_⟩
  · rw [List.getElem?_append] at e
    split at e
    · exact h2 b d hb e
    · rw [List.getElem?_singleton] at e
      split at e
      · cases e
        exact hv
      · cases e
  · have hl : b < M0.length := Nat.lt_of_not_le fun z => hb (hS b z)
    rw [List.getElem?_append_left (by omega)]
    exact h3 b hb
theorem aok_set {S : Nat → Prop} {vs : List Value} {k : Nat} {v : Value} (h : aok S vs) (hv : vok S v) : aok S (vs.set k v) := by
  intro w hw
  rcases List.mem_or_eq_of_mem_set hw with q | q
  · exact h w q
  · exact q ▸ hv
theorem fald {S : Nat → Prop} {M0 M : zM} {kind : Nat} {st st' : List Value} (h : zald M kind st = some st') (hs : aok S st) (hm : mok S M0 M) : aok S st' := by
  unfold zald at h
  split at h
  · split at h
    · rename_i q
      split at h
      · rw [Option.map_eq_some_iff] at h
        obtain ⟨v, h1, h⟩ := h
        cases h
        simp only [aok_cons, vok_int, true_and] at hs ⊢
        exact ⟨(mok_get hm hs.1 q).2 v (List.mem_of_getElem? h1), hs.2⟩
      · cases h
    · cases h
  · cases h
theorem fast {S : Nat → Prop} {M0 M : zM} {kind : Nat} {v : Value} {st : List Value} {q : List Value × zM} (h : zast M kind v st = some q) (hv : vok S v) (hs : aok S st) (hm : mok S M0 M) : aok S q.1 ∧ mok S M0 q.2 := by
  unfold zast at h
  split at h
  · split at h
    · rename_i e
      split at h
      · cases h
        simp only [aok_cons, vok_int, true_and] at hs
        exact ⟨hs.2, mok_set hm hs.1 (aok_set (mok_get hm hs.1 e).2 hv)⟩
      · cases h
    · cases h
  · cases h
theorem vok_def {S : Nat → Prop} {t : FieldType} : vok S (defaultValue t) := by
  cases t <;> trivial
theorem aok_rep {S : Nat → Prop} {n : Nat} {v : Value} (h : vok S v) : aok S (List.replicate n v) := by
  intro w hw
  rw [(List.mem_replicate.mp hw).2]
  exact h
theorem fmem {S : Nat → Prop} {M0 M M' : zM} {own : Nat} {ini : Bool} {X : List Int32} {i : Instr} {st st' : List Value} {n : Nat} (hS : ∀ a, M0.length ≤ a → S a) (hz : M0.length ≤ zBig) (h : zmem own ini X i st M = some (n, st', M')) (hs : aok S st) (hm : mok S M0 M) : aok S st' ∧ mok S M0 M' := by
  unfold zmem at h
  split at h
  · -- getfield
    split at h
    · split at h
      · rename_i q
        rw [Option.map_eq_some_iff] at h
        obtain ⟨v, h1, h⟩ := h
        cases h
        simp only [aok_cons] at hs ⊢
        exact ⟨⟨(mok_get hm hs.1 q).2 v (List.mem_of_getElem? h1), hs.2⟩, hm⟩
      · cases h
    · cases h
  · -- putfield
    split at h
    · split at h
      · rename_i q
        split at h
        · cases h
          simp only [aok_cons] at hs
          exact ⟨hs.2.2, mok_set hm hs.2.1 (aok_set (mok_get hm hs.2.1 q).2 hs.1)⟩
        · cases h
      · cases h
    · cases h
  · -- iaload
    split at h
    · split at h
      · cases h
      · cases h
        simp only [aok_cons, vok_int, true_and] at hs ⊢
        exact ⟨hs.2, hm⟩
    · rw [Option.map_eq_some_iff] at h
      obtain ⟨t, h1, h⟩ := h
      cases h
      exact ⟨fald h1 hs hm, hm⟩
  · rw [Option.map_eq_some_iff] at h
    obtain ⟨t, h1, h⟩ := h
    cases h
    exact ⟨fald h1 hs hm, hm⟩
  · rw [Option.map_eq_some_iff] at h
    obtain ⟨t, h1, h⟩ := h
    cases h
    exact ⟨fald h1 hs hm, hm⟩
  · rw [Option.map_eq_some_iff] at h
    obtain ⟨t, h1, h⟩ := h
    cases h
    exact ⟨fald h1 hs hm, hm⟩
  · rw [Option.map_eq_some_iff] at h
    obtain ⟨t, h1, h⟩ := h
    cases h
    rw [aok_cons] at hs
    exact fast h1 hs.1 hs.2 hm
  · rw [Option.map_eq_some_iff] at h
    obtain ⟨t, h1, h⟩ := h
    cases h
    rw [aok_cons] at hs
    exact fast h1 hs.1 hs.2 hm
  · split at h
    · rw [Option.map_eq_some_iff] at h
      obtain ⟨t, h1, h⟩ := h
      cases h
      rw [aok_cons] at hs
      exact fast h1 hs.1 hs.2 hm
    · cases h
  · split at h
    · rw [Option.map_eq_some_iff] at h
      obtain ⟨t, h1, h⟩ := h
      cases h
      rw [aok_cons] at hs
      exact fast h1 hs.1 hs.2 hm
    · cases h
  · -- arraylength
    rw [aok_cons] at hs
    split at h
    · split at h
      · cases h
        exact ⟨aok_cons.mpr ⟨trivial, hs.2⟩, hm⟩
      · cases h
    · split at h
      · split at h
        · cases h
          exact ⟨aok_cons.mpr ⟨trivial, hs.2⟩, hm⟩
        · cases h
      · cases h
  · -- new
    split at h
    · split at h
      · cases h
        refine ⟨aok_cons.mpr ⟨hS _ hm.1, hs⟩, mok_add hS hm ?_⟩
        intro v hv
        obtain ⟨k, -, e⟩ := List.mem_map.mp hv
        exact e ▸ vok_def
      · cases h
    · cases h
  · -- newarray
    rw [aok_cons] at hs
    split at h
    · rename_i q
      split at h
      · cases h
        refine ⟨aok_cons.mpr ⟨hS _ hm.1, hs.2⟩, mok_add hS hm (aok_rep ?_)⟩
        unfold zaty at q
        split at q
        all_goals cases q
        all_goals trivial
      · cases h
    · cases h
  · -- anewarray
    rw [aok_cons] at hs
    split at h
    · cases h
      exact ⟨aok_cons.mpr ⟨hS _ hm.1, hs.2⟩, mok_add hS hm (aok_rep trivial)⟩
    · cases h
  · split at h
    · cases h
      exact ⟨aok_cons.mpr ⟨trivial, hs⟩, hm⟩
    · split at h
      · cases h
        exact ⟨aok_cons.mpr ⟨hS _ (by omega), hs⟩, hm⟩
      · cases h
  · split at h
    · cases h
      exact ⟨aok_cons.mpr ⟨trivial, hs⟩, hm⟩
    · cases h
  · split at h
    · cases h
      exact ⟨aok_cons.mpr ⟨trivial, hs⟩, hm⟩
    · cases h
  · cases h
theorem aok_take {S : Nat → Prop} {st : List Value} {n : Nat} (h : aok S st) : aok S (st.take n) := fun v hv => h v (List.mem_of_mem_take hv)
theorem aok_drop {S : Nat → Prop} {st : List Value} {n : Nat} (h : aok S st) : aok S (st.drop n) := fun v hv => h v (List.mem_of_mem_drop hv)
theorem aok_rev {S : Nat → Prop} {st : List Value} (h : aok S st) : aok S st.reverse := fun v hv => h v (List.mem_reverse.mp hv)
theorem aok_app {S : Nat → Prop} {st st' : List Value} (h : aok S st) (h' : aok S st') : aok S (st ++ st') := fun v hv => (List.mem_append.mp hv).elim (h v) (h' v)
theorem facpy {S : Nat → Prop} {M0 M : zM} {st : List Value} {q : List Value × zM} (h : zacpy M st = some q) (hs : aok S st) (hm : mok S M0 M) : aok S q.1 ∧ mok S M0 q.2 := by
  unfold zacpy at h
  split at h
  · simp only [aok_cons, vok_int, true_and] at hs
    split at h
    · rename_i q1 q2
      split at h
      · cases h
        refine ⟨hs.2.2, mok_set hm hs.1 ?_⟩
        unfold zcpy
        exact aok_app (aok_app (aok_take (hm.2.1 _ _ hs.1 q2)) (aok_take (aok_drop (hm.2.1 _ _ hs.2.1 q1)))) (aok_drop (hm.2.1 _ _ hs.1 q2))
      · cases h
    · cases h
  · cases h
def rok (S : Nat → Prop) (M0 : zM) (r : zRes) : Prop := aok S r.1.toList ∧ mok S M0 r.2
def cok (S : Nat → Prop) (M0 : zM) (call : Nat → List Value → zM → Option zRes) : Prop := ∀ j vs M r, call j vs M = some r → aok S vs → mok S M0 M → rok S M0 r
theorem finv {S : Nat → Prop} {M0 M M' : zM} {own : Nat} {call : Nat → List Value → zM → Option zRes} {i : Instr} {st st' : List Value} (hc : cok S M0 call) (h : zinv own call i st M = some (st', M')) (hs : aok S st) (hm : mok S M0 M) : aok S st' ∧ mok S M0 M' := by
  have hd : ∀ {n v r}, st.drop n = v :: r → vok S v ∧ aok S r := fun {n v r} e => aok_cons.mp (e ▸ aok_drop hs)
  unfold zinv at h
  split at h
  · split at h
    · split at h
      · split at h
        · rename_i e
          split at h
          · split at h
            · rw [Option.map_eq_some_iff] at h
              obtain ⟨t, h1, h⟩ := h
              cases h
              have := hc _ _ _ _ h1 (aok_cons.mpr ⟨(hd e).1, aok_rev (aok_take hs)⟩) hm
              exact ⟨aok_app this.1 (hd e).2, this.2⟩
            · cases h
          · cases h
        · cases h
      · cases h
    · split at h
      · split at h
        · rw [Option.map_eq_some_iff] at h
          obtain ⟨t, h1, h⟩ := h
          cases h
          rw [aok_cons] at hs
          have := hc _ _ _ _ h1 (aok_cons.mpr ⟨hs.1, aok_nil.mpr trivial⟩) hm
          exact ⟨aok_app this.1 hs.2, this.2⟩
        · cases h
      · cases h
    · split at h
      · split at h
        · rw [Option.map_eq_some_iff] at h
          obtain ⟨t, h1, h⟩ := h
          cases h
          rw [aok_cons, aok_cons] at hs
          have := hc _ _ _ _ h1 (aok_cons.mpr ⟨hs.2.1, aok_cons.mpr ⟨hs.1, aok_nil.mpr trivial⟩⟩) hm
          exact ⟨aok_app this.1 hs.2.2, this.2⟩
        · cases h
      · cases h
    · split at h
      · split at h
        · rw [Option.map_eq_some_iff] at h
          obtain ⟨t, h1, h⟩ := h
          cases h
          rw [aok_cons, aok_cons] at hs
          have := hc _ _ _ _ h1 (aok_cons.mpr ⟨hs.2.1, aok_cons.mpr ⟨hs.1, aok_nil.mpr trivial⟩⟩) hm
          exact ⟨aok_app this.1 hs.2.2, this.2⟩
        · cases h
      · cases h
    · cases h
  · split at h
    · split at h
      · split at h
        · rw [Option.map_eq_some_iff] at h
          obtain ⟨t, h1, h⟩ := h
          cases h
          have := hc _ _ _ _ h1 (aok_rev (aok_take hs)) hm
          exact ⟨aok_app this.1 (aok_drop hs), this.2⟩
        · cases h
      · cases h
    · split at h
      · split at h
        · cases h
          rw [aok_cons, aok_cons] at hs
          exact ⟨aok_cons.mpr ⟨trivial, hs.2.2⟩, hm⟩
        · cases h
      · cases h
    · split at h
      · split at h
        · cases h
          rw [aok_cons, aok_cons] at hs
          exact ⟨aok_cons.mpr ⟨trivial, hs.2.2⟩, hm⟩
        · cases h
      · cases h
    · exact facpy h hs hm
    · cases h
  · split at h
    · split at h
      · split at h
        · rename_i e
          split at h
          · rw [Option.map_eq_some_iff] at h
            obtain ⟨t, h1, h⟩ := h
            cases h
            have := hc _ _ _ _ h1 (aok_cons.mpr ⟨(hd e).1, aok_rev (aok_take hs)⟩) hm
            exact ⟨aok_app this.1 (hd e).2, this.2⟩
          · cases h
        · cases h
      · cases h
    · split at h
      · split at h
        · rename_i e
          split at h
          · rw [Option.map_eq_some_iff] at h
            obtain ⟨t, h1, h⟩ := h
            cases h
            have := hc _ _ _ _ h1 (aok_cons.mpr ⟨(hd e).1, aok_rev (aok_take hs)⟩) hm
            exact ⟨aok_app this.1 (hd e).2, this.2⟩
          · cases h
        · cases h
      · cases h
    · split at h
      · split at h
        · cases h
          rw [aok_cons] at hs
          exact ⟨hs.2, hm⟩
        · cases h
      · cases h
    · cases h
  · cases h
theorem fret {S : Nat → Prop} {ret : Option FieldType} {i : Instr} {st : List Value} {v : Option Value} (h : zret ret i st = some v) : aok S v.toList := by
  unfold zret at h
  split at h
  all_goals try (split at h)
  all_goals try (split at h)
  all_goals cases h
  all_goals first | exact aok_cons.mpr ⟨trivial, aok_nil.mpr trivial⟩ | exact aok_nil.mpr trivial
def sok (S : Nat → Prop) (M0 : zM) (s : zS) : Prop := lok S s.2.1 ∧ aok S s.2.2.1 ∧ mok S M0 s.2.2.2
def ook (S : Nat → Prop) (M0 : zM) : zS ⊕ zRes → Prop
  | .inl s => sok S M0 s
  | .inr r => rok S M0 r
theorem fstep {S : Nat → Prop} {M0 : zM} {own : Nat} {ini : Bool} {ret : Option FieldType} {cc : ByteArray} {X : List Int32} {call : Nat → List Value → zM → Option zRes} {s : zS} {o : zS ⊕ zRes} (hS : ∀ a, M0.length ≤ a → S a) (hz : M0.length ≤ zBig) (hc : cok S M0 call) (h : zstep own ini ret cc X call s = some o) (hs : sok S M0 s) : ook S M0 o := by
  obtain ⟨pc, ml, st, M⟩ := s
  obtain ⟨s1, s2, s3⟩ := hs
  unfold zstep at h
  split at h
  · cases h
  · split at h
    · rename_i q
      split at h
      · cases h
        exact ⟨fret q, s3⟩
      · cases h
    · split at h
      · rename_i q
        split at h
        · cases h
          exact ⟨s1, fpure q s2, s3⟩
        · cases h
      · split at h
        · rename_i q
          cases h
          exact ⟨s1, fbr q s2, s3⟩
        · split at h
          · rename_i q
            split at h
            · cases h
              have := floc q s1 s2
              exact ⟨this.1, this.2, s3⟩
            · cases h
          · split at h
            · rename_i q
              split at h
              · cases h
                have := fmem hS hz q s2 s3
                exact ⟨s1, this.1, this.2⟩
              · cases h
            · split at h
              · rename_i q
                split at h
                · cases h
                  have := finv hc q s2 s3
                  exact ⟨s1, this.1, this.2⟩
                · cases h
              · cases h
theorem floop {S : Nat → Prop} {M0 : zM} {f : zS → Option (zS ⊕ zRes)} (hf : ∀ s o, f s = some o → sok S M0 s → ook S M0 o) : ∀ (n : Nat) (s : zS) (r : zRes), zloop f n s = some r → sok S M0 s → rok S M0 r := by
  intro n
  induction n with
  | zero => intro s r h; cases h
  | succ n ih =>
    intro s r h hs
    unfold zloop at h
    split at h
    · cases h
    · rename_i q
      exact ih _ r h (hf s _ q hs)
    · rename_i q
      cases h
      exact hf s _ q hs
theorem fprm {j : Nat} {vs : List Value} {M : zM} {r : zRes} (h : zprm j vs M = some r) : (∃ x, r.1 = some (.int x)) ∧ r.2 = M := by
  unfold zprm at h
  split at h
  all_goals try (split at h)
  all_goals cases h
  all_goals exact ⟨⟨_, rfl⟩, rfl⟩
theorem lok_ent {S : Nat → Prop} {vs : List Value} {n : Nat} (h : aok S vs) : lok S (zent vs n) := by
  intro v hv
  unfold zent at hv
  rcases List.mem_append.mp hv with q | q
  · unfold zargs at q
    obtain ⟨w, hw, q⟩ := List.mem_flatMap.mp q
    split at q
    · rcases List.mem_cons.mp q with e | e
      · cases e
        exact h _ hw
      · rcases List.mem_cons.mp e with e | e
        · cases e
        · exact absurd e List.not_mem_nil
    · rcases List.mem_cons.mp q with e | e
      · cases e
        exact h _ hw
      · exact absurd e List.not_mem_nil
  · cases (List.mem_replicate.mp q).2
theorem fev {S : Nat → Prop} {M0 : zM} {X : List Int32} {F : Nat} (hS : ∀ a, M0.length ≤ a → S a) (hz : M0.length ≤ zBig) : ∀ d : Nat, cok S M0 (zev X F d) := by
  intro d
  induction d with
  | zero => intro j vs M r h; cases h
  | succ d ih =>
    intro j vs M r h hv hm
    unfold zev at h
    split at h
    · split at h
      · obtain ⟨⟨x, e1⟩, e2⟩ := fprm h
        unfold rok
        rw [e1, e2]
        exact ⟨aok_cons.mpr ⟨trivial, aok_nil.mpr trivial⟩, hm⟩
      · cases h
    · split at h
      · exact floop (fun s o ho hs => fstep hS hz ih ho hs) F _ r h ⟨lok_ent hv, aok_nil.mpr trivial, hm⟩
      · cases h
/-- the frame of a call: what doesn't lie in S stays as it is -/
theorem ZV.frame {S : Nat → Prop} {X : List Int32} {d j : Nat} {vs : List Value} {M : zM} {Q : zRes → Prop} (h : ZV X d j vs M Q) (hS : ∀ a, M.length ≤ a → S a) (hz : M.length ≤ zBig) (hv : aok S vs) (hM : ∀ a c, S a → M[a]? = some c → aok S c.2) : ZV X d j vs M (fun r => Q r ∧ ∀ a k, ¬ S a → zvl r.2 a k = zvl M a k) := by
  obtain ⟨r, ⟨F, h1⟩, h2⟩ := h
  have := fev (S := S) (M0 := M) hS hz d _ _ _ _ h1 hv ⟨Nat.le_refl _, hM, fun _ _ => rfl⟩
  refine ⟨r, ⟨F, h1⟩, h2, fun a k ha => ?_⟩
  unfold zvl
  rw [this.2.2.2 a ha]
/-! the Reader's run leaves the Dorm that it doesn't hold as it is -/
def zSq (q a : Nat) : Prop := (1 ≤ a ∧ a ≤ 6) ∨ (q ≤ a ∧ a < q + 21) ∨ 440 ≤ a
def zdom (q : Nat) : List Nat := [1, 2, 3, 4, 5, 6] ++ (List.range 21).map (· + q)
theorem zT_rowD (a k : Nat) : zT a k = (9, 0, 0) ∨ zT a k ∈ (zTT.getD a (false, [])).2 := by
  unfold zT
  rw [List.getD_eq_getElem?_getD]
  split
  · rename_i t l e
    rw [e]
    exact Or.inr List.mem_cons_self
  · rename_i b l _ e
    rw [e]
    rw [List.getD_eq_getElem?_getD]
    cases z : l[k]? with
    | none => exact Or.inl rfl
    | some t => exact Or.inr (List.mem_of_getElem? z)
  · exact Or.inl rfl
theorem zdom_ok : ∀ q ∈ [7, 28], ∀ a ∈ zdom q, ∀ t ∈ (zTT.getD a (false, [])).2, (t.1 = 2 → (1 ≤ t.2.1.toNat ∧ t.2.1.toNat ≤ 6) ∨ (q ≤ t.2.1.toNat ∧ t.2.1.toNat < q + 21) ∨ 440 ≤ t.2.1.toNat) ∧ (t.1 = 3 → a = 2) := by decide +kernel
theorem z28_ok : ∀ k < 11, k ≠ 8 → (zT 2 k).1 ≠ 3 := by decide +kernel
theorem rd_closed {N : Nat} {M : zM} {q : Nat} (hq : q = 7 ∨ q = 28) (hB : zB N M) (h8 : zvl M 2 8 = some (.ref q)) : ∀ a c, zSq q a → M[a]? = some c → aok (zSq q) c.2 := by
  intro a c ha e v hv
  obtain ⟨k, e2⟩ := List.mem_iff_getElem?.mp hv
  have hvl : zvl M a k = some v := by
    unfold zvl
    rw [e]
    exact e2
  cases v with
  | ref b =>
    show zSq q b
    by_cases z : a = 2 ∧ k = 8
    · rw [z.1, z.2, h8] at hvl
      cases hvl
      exact Or.inr (Or.inl ⟨Nat.le_refl _, by omega⟩)
    · have hi := hB.2 a k _ hvl
      have hlen : a < M.length := (List.getElem?_eq_some_iff.mp e).1
      rw [zSh_len hB.1] at hlen
      have hd : a ∈ zdom q := by
        unfold zdom
        rw [List.mem_append]
        rcases ha with h | h | h
        · left
          have : a = 1 ∨ a = 2 ∨ a = 3 ∨ a = 4 ∨ a = 5 ∨ a = 6 := by omega
          rcases this with h | h | h | h | h | h <;> subst h <;> decide
        · right
          exact List.mem_map.mpr ⟨a - q, List.mem_range.mpr (by omega), by omega⟩
        · exact absurd h (by omega)
      have hk : a = 2 → k < 11 := by
        intro h2
        subst h2
        obtain ⟨vs, s1, s2, -⟩ := zSh_get hB.1 (show zS0[2]? = some (5, 11) from rfl)
        rw [s1] at e
        cases e
        have := (List.getElem?_eq_some_iff.mp e2).1
        rw [s2] at this
        exact this
      rcases zT_rowD a k with h | h
      · rw [h] at hi
        exact (show False from hi).elim
      · have f := zdom_ok q (by rcases hq with h | h <;> subst h <;> decide) a hd _ h
        unfold zIn at hi
        split at hi
        · rename_i e1 e3
          cases e3
        · rename_i e1 e3
          cases e3
        · rename_i e1 e3
          cases e3
          have := f.1 e1
          rw [← hi] at this
          exact this
        · rename_i e1 e3
          have h2 := f.2 e1
          subst h2
          exact absurd e1 (z28_ok k (hk rfl) (fun h => z ⟨rfl, h⟩))
        · rename_i e1 e3
          cases e3
        · exact hi.elim
  | _ => trivial
/-- the Reader's read: what lies outside its own cells, the tape, the Dorm that it fills, is as before -/
theorem kq_1281 {X : List Int32} {d N : Nat} {M0 : zM} {q : Nat} (hq : q = 7 ∨ q = 28) (h8 : zvl M0 2 8 = some (.ref q)) (a1 : Int32) (ha10 : (0 : Int) ≤ a1.toInt) (ha11 : a1.toInt ≤ 1600) (hN : N ≤ 600) (hB0 : zB N M0) {Q : zRes → Prop} (hk : ZV X (d + 23) 1281 [.ref 2, .ref 1, .int a1] M0 Q) : ZV X (d + 23) 1281 [.ref 2, .ref 1, .int a1] M0 (fun r => Q r ∧ ∀ a k, ¬ zSq q a → zvl r.2 a k = zvl M0 a k) := by
  have hl := zSh_len hB0.1
  refine ZV.frame hk (fun a h => Or.inr (Or.inr (by omega))) (by rw [hl]; decide) ?_ (rd_closed hq hB0 h8)
  intro v hv
  rcases List.mem_cons.mp hv with h | hv
  · subst h
    exact Or.inl (by decide)
  · rcases List.mem_cons.mp hv with h | hv
    · subst h
      exact Or.inl (by decide)
    · rcases List.mem_cons.mp hv with h | hv
      · subst h
        trivial
      · exact absurd hv List.not_mem_nil
