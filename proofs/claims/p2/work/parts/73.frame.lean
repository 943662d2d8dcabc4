/-! FRAME: a run that begins within a closed set of cells leaves all other cells as they are -/
def vok (S : Nat → Prop) : Value → Prop
  | .ref a => S a
  | _ => True
def aok (S : Nat → Prop) (st : List Value) : Prop := ∀ v ∈ st, vok S v
def lok (S : Nat → Prop) (ml : zML) : Prop := ∀ v, some v ∈ ml → vok S v
def mok (S : Nat → Prop) (M0 M : zM) : Prop := M0.length ≤ M.length ∧ (∀ a c, S a → M[a]? = some c → aok S c.2) ∧ ∀ a, ¬ S a → M[a]? = M0[a]?
theorem vok_int {S : Nat → Prop} {x : Int32} : vok S (.int x) ↔ True := Iff.rfl
theorem vok_long {S : Nat → Prop} {x : Int64} : vok S (.long x) ↔ True := Iff.rfl
theorem vok_null {S : Nat → Prop} : vok S .null ↔ True := Iff.rfl
theorem aok_cons {S : Nat → Prop} {v : Value} {st : List Value} : aok S (v :: st) ↔ vok S v ∧ aok S st := by
  unfold aok
  rw [List.forall_mem_cons]
theorem aok_nil {S : Nat → Prop} : aok S [] ↔ True := ⟨fun _ => trivial, fun _ v h => absurd h List.not_mem_nil⟩
theorem fpure {S : Nat → Prop} {i : Instr} {st st' : List Value} {n : Nat} (h : zpure i st = some (n, st')) (hs : aok S st) : aok S st' := by
  unfold zpure at h
  split at h
  all_goals try (split at h)
  all_goals try (split at h)
  all_goals try (split at h)
  all_goals cases h
  all_goals try simp only [aok_cons, vok_int, vok_long, vok_null, true_and] at hs ⊢
  all_goals try exact hs
  all_goals first | exact ⟨hs.1, hs⟩ | exact hs.2 | exact ⟨hs.1, hs.2.1, hs⟩
theorem fbr {S : Nat → Prop} {i : Instr} {pc len : Nat} {st st' : List Value} {n : Nat} (h : zbr i pc len st = some (n, st')) (hs : aok S st) : aok S st' := by
  unfold zbr at h
  split at h
  all_goals try (split at h)
  all_goals try (split at h)
  all_goals try (split at h)
  all_goals try (rw [Option.map_eq_some_iff] at h; obtain ⟨t, h1, h⟩ := h)
  all_goals cases h
  all_goals try simp only [aok_cons, vok_int, vok_long, vok_null, true_and] at hs ⊢
  all_goals try exact hs
  all_goals exact hs.2
theorem lok_set {S : Nat → Prop} {ml : zML} {i : Nat} {w : Option Value} (h : lok S ml) (hw : ∀ v, w = some v → vok S v) : lok S (ml.set i w) := by
  intro v hv
  rcases List.mem_or_eq_of_mem_set hv with q | q
  · exact h v q
  · exact hw v q.symm
theorem lok_st {S : Nat → Prop} {ml ml' : zML} {i : Nat} {v : Value} (h : zst ml i v = some ml') (hl : lok S ml) (hv : vok S v) : lok S ml' := by
  have hc : ∀ j, lok S (zclr ml j) := by
    intro j
    cases j with
    | zero => exact hl
    | succ j =>
      have e : zclr ml (j + 1) = match ml[j]? with
        | some (some w) => if w.category = 2 then ml.set j none else ml
        | _ => ml := rfl
      rw [e]
      split
      · split
        · exact lok_set hl (fun v z => by cases z)
        · exact hl
      · exact hl
  unfold zst at h
  split at h
  · split at h
    · cases h
      exact lok_set (hc _) (fun w z => by cases z; exact hv)
    · cases h
  · split at h
    · cases h
      exact lok_set (lok_set (hc _) (fun w z => by cases z; exact hv)) (fun w z => by cases z)
    · cases h
theorem floc {S : Nat → Prop} {i : Instr} {ml ml' : zML} {st st' : List Value} {n : Nat} (h : zloc i ml st = some (n, ml', st')) (hl : lok S ml) (hs : aok S st) : lok S ml' ∧ aok S st' := by
  have hm : ∀ k v, ml[k]? = some (some v) → vok S v := fun k v e => hl v (List.mem_of_getElem? e)
  unfold zloc at h
  split at h
  all_goals try (split at h)
  all_goals try (rw [Option.map_eq_some_iff] at h; obtain ⟨m2, h1, h⟩ := h)
  all_goals cases h
  all_goals try simp only [aok_cons, vok_int, vok_long, vok_null, true_and] at hs ⊢
  all_goals first
    | exact ⟨hl, hs⟩
    | exact ⟨hl, hm _ _ (by assumption), hs⟩
    | exact ⟨lok_st h1 hl trivial, hs⟩
    | exact ⟨lok_st h1 hl hs.1, hs.2⟩
theorem mok_get {S : Nat → Prop} {M0 M : zM} (h : mok S M0 M) {a kind : Nat} {vs : List Value} (ha : S a) (e : zarr M a kind = some vs) : M[a]? = some (kind, vs) ∧ aok S vs := by
  unfold zarr at e
  split at e
  · rename_i c ws q
    split at e
    · rename_i z
      cases e
      subst z
      exact ⟨q, h.2.1 a _ ha q⟩
    · cases e
  · cases e
theorem mok_set {S : Nat → Prop} {M0 M : zM} (h : mok S M0 M) {a kind : Nat} {vs : List Value} (ha : S a) (hv : aok S vs) : mok S M0 (M.set a (kind, vs)) := by
  obtain ⟨h1, h2, h3⟩ := h
  refine ⟨by rw [List.length_set]; exact h1, fun b c hb e => ?_, fun b hb => ?_⟩
  · rw [List.getElem?_set] at e
    split at e
    · split at e
      · cases e
        exact hv
      · cases e
    · exact h2 b c hb e
  · rw [List.getElem?_set, if_neg (fun z : a = b => hb (z ▸ ha))]
    exact h3 b hb
theorem mok_add {S : Nat → Prop} {M0 M : zM} (hS : ∀ a, M0.length ≤ a → S a) (h : mok S M0 M) {c : zE} (hv : aok S c.2) : mok S M0 (M ++ [c]) := by
  obtain ⟨h1, h2, h3⟩ := h
  refine ⟨by rw [List.length_append]; omega, fun b d hb e => ?_, fun b hb => ?_⟩
  · rw [List.getElem?_append] at e
    split at e
    · exact h2 b d hb e
    · rw [List.getElem?_singleton] at e
      split at e
      · cases e
        exact hv
      · cases e
  · have hl : b < M0.length := Nat.lt_of_not_le fun z => hb (hS b z)
    rw [List.getElem?_append_left (by omega)]
    exact h3 b hb
theorem aok_set {S : Nat → Prop} {vs : List Value} {k : Nat} {v : Value} (h : aok S vs) (hv : vok S v) : aok S (vs.set k v) := by
  intro w hw
  rcases List.mem_or_eq_of_mem_set hw with q | q
  · exact h w q
  · exact q ▸ hv
theorem fald {S : Nat → Prop} {M0 M : zM} {kind : Nat} {st st' : List Value} (h : zald M kind st = some st') (hs : aok S st) (hm : mok S M0 M) : aok S st' := by
  unfold zald at h
  split at h
  · split at h
    · rename_i q
      split at h
      · rw [Option.map_eq_some_iff] at h
        obtain ⟨v, h1, h⟩ := h
        cases h
        simp only [aok_cons, vok_int, true_and] at hs ⊢
        exact ⟨(mok_get hm hs.1 q).2 v (List.mem_of_getElem? h1), hs.2⟩
      · cases h
    · cases h
  · cases h
theorem fast {S : Nat → Prop} {M0 M : zM} {kind : Nat} {v : Value} {st : List Value} {q : List Value × zM} (h : zast M kind v st = some q) (hv : vok S v) (hs : aok S st) (hm : mok S M0 M) : aok S q.1 ∧ mok S M0 q.2 := by
  unfold zast at h
  split at h
  · split at h
    · rename_i e
      split at h
      · cases h
        simp only [aok_cons, vok_int, true_and] at hs
        exact ⟨hs.2, mok_set hm hs.1 (aok_set (mok_get hm hs.1 e).2 hv)⟩
      · cases h
    · cases h
  · cases h
theorem vok_def {S : Nat → Prop} {t : FieldType} : vok S (defaultValue t) := by
  cases t <;> trivial
theorem aok_rep {S : Nat → Prop} {n : Nat} {v : Value} (h : vok S v) : aok S (List.replicate n v) := by
  intro w hw
  rw [(List.mem_replicate.mp hw).2]
  exact h
theorem fmem {S : Nat → Prop} {M0 M M' : zM} {own : Nat} {ini : Bool} {X : List Int32} {i : Instr} {st st' : List Value} {n : Nat} (hS : ∀ a, M0.length ≤ a → S a) (hz : M0.length ≤ zBig) (h : zmem own ini X i st M = some (n, st', M')) (hs : aok S st) (hm : mok S M0 M) : aok S st' ∧ mok S M0 M' := by
  unfold zmem at h
  split at h
  · -- getfield
    split at h
    · split at h
      · rename_i q
        rw [Option.map_eq_some_iff] at h
        obtain ⟨v, h1, h⟩ := h
        cases h
        simp only [aok_cons] at hs ⊢
        exact ⟨⟨(mok_get hm hs.1 q).2 v (List.mem_of_getElem? h1), hs.2⟩, hm⟩
      · cases h
    · cases h
  · -- putfield
    split at h
    · split at h
      · rename_i q
        split at h
        · cases h
          simp only [aok_cons] at hs
          exact ⟨hs.2.2, mok_set hm hs.2.1 (aok_set (mok_get hm hs.2.1 q).2 hs.1)⟩
        · cases h
      · cases h
    · cases h
  · -- iaload
    split at h
    · split at h
      · cases h
      · cases h
        simp only [aok_cons, vok_int, true_and] at hs ⊢
        exact ⟨hs.2, hm⟩
    · rw [Option.map_eq_some_iff] at h
      obtain ⟨t, h1, h⟩ := h
      cases h
      exact ⟨fald h1 hs hm, hm⟩
  · rw [Option.map_eq_some_iff] at h
    obtain ⟨t, h1, h⟩ := h
    cases h
    exact ⟨fald h1 hs hm, hm⟩
  · rw [Option.map_eq_some_iff] at h
    obtain ⟨t, h1, h⟩ := h
    cases h
    exact ⟨fald h1 hs hm, hm⟩
  · rw [Option.map_eq_some_iff] at h
    obtain ⟨t, h1, h⟩ := h
    cases h
    exact ⟨fald h1 hs hm, hm⟩
  · rw [Option.map_eq_some_iff] at h
    obtain ⟨t, h1, h⟩ := h
    cases h
    rw [aok_cons] at hs
    exact fast h1 hs.1 hs.2 hm
  · rw [Option.map_eq_some_iff] at h
    obtain ⟨t, h1, h⟩ := h
    cases h
    rw [aok_cons] at hs
    exact fast h1 hs.1 hs.2 hm
  · split at h
    · rw [Option.map_eq_some_iff] at h
      obtain ⟨t, h1, h⟩ := h
      cases h
      rw [aok_cons] at hs
      exact fast h1 hs.1 hs.2 hm
    · cases h
  · split at h
    · rw [Option.map_eq_some_iff] at h
      obtain ⟨t, h1, h⟩ := h
      cases h
      rw [aok_cons] at hs
      exact fast h1 hs.1 hs.2 hm
    · cases h
  · -- arraylength
    rw [aok_cons] at hs
    split at h
    · split at h
      · cases h
        exact ⟨aok_cons.mpr ⟨trivial, hs.2⟩, hm⟩
      · cases h
    · split at h
      · split at h
        · cases h
          exact ⟨aok_cons.mpr ⟨trivial, hs.2⟩, hm⟩
        · cases h
      · cases h
  · -- new
    split at h
    · split at h
      · cases h
        refine ⟨aok_cons.mpr ⟨hS _ hm.1, hs⟩, mok_add hS hm ?_⟩
        intro v hv
        obtain ⟨k, -, e⟩ := List.mem_map.mp hv
        exact e ▸ vok_def
      · cases h
    · cases h
  · -- newarray
    rw [aok_cons] at hs
    split at h
    · rename_i q
      split at h
      · cases h
        refine ⟨aok_cons.mpr ⟨hS _ hm.1, hs.2⟩, mok_add hS hm (aok_rep ?_)⟩
        unfold zaty at q
        split at q
        all_goals cases q
        all_goals trivial
      · cases h
    · cases h
  · -- anewarray
    rw [aok_cons] at hs
    split at h
    · cases h
      exact ⟨aok_cons.mpr ⟨hS _ hm.1, hs.2⟩, mok_add hS hm (aok_rep trivial)⟩
    · cases h
  · split at h
    · cases h
      exact ⟨aok_cons.mpr ⟨trivial, hs⟩, hm⟩
    · split at h
      · cases h
        exact ⟨aok_cons.mpr ⟨hS _ (by omega), hs⟩, hm⟩
      · cases h
  · split at h
    · cases h
      exact ⟨aok_cons.mpr ⟨trivial, hs⟩, hm⟩
    · cases h
  · split at h
    · cases h
      exact ⟨aok_cons.mpr ⟨trivial, hs⟩, hm⟩
    · cases h
  · cases h
