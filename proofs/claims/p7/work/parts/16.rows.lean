/-! THE SMALL MACHINE's OWN ROWS: runs without fuel; a row an instruction, a row a call -/
theorem zinv_leM {own : Nat} {c1 c2 : Nat → List Value → zM → Option zRes} {i : Instr} {st : List Value} {M : zM} {o : List Value × zM} (hc : ∀ j vs r, c1 j vs M = some r → c2 j vs M = some r) (h : zinv own c1 i st M = some o) : zinv own c2 i st M = some o := by
  have key : ∀ {j : Nat} {vs : List Value} {f : zRes → List Value × zM}, (c1 j vs M).map f = some o → (c2 j vs M).map f = some o := by
    intro j vs f h
    rw [Option.map_eq_some_iff] at h ⊢
    obtain ⟨q, h1, h2⟩ := h
    exact ⟨q, hc _ _ _ h1, h2⟩
  unfold zinv at h ⊢
  split at h
  · split at h
    · split at h
      · split at h
        · split at h
          · split at h
            · rename_i q5
              try simp only [‹zcall _ _ = some _›, ‹zmt _ = some _›, ‹List.drop _ _ = _›, ‹zarr _ _ _ = some _›]
              rw [if_pos q5]
              exact key h
            · cases h
          · cases h
        · cases h
      · cases h
    · split at h
      · split at h
        · rename_i q5
          try simp only [‹zcall _ _ = some _›]
          rw [if_pos q5]
          exact key h
        · cases h
      · cases h
    · split at h
      · split at h
        · rename_i q5
          try simp only [‹zcall _ _ = some _›]
          rw [if_pos q5]
          exact key h
        · cases h
      · cases h
    · split at h
      · split at h
        · rename_i q5
          try simp only [‹zcall _ _ = some _›]
          rw [if_pos q5]
          exact key h
        · cases h
      · cases h
    · cases h
  · split at h
    · split at h
      · split at h
        · rename_i q5
          try simp only [‹zcall _ _ = some _›, ‹zmt _ = some _›]
          rw [if_pos q5]
          exact key h
        · cases h
      · cases h
    · try simp only [‹zcall _ _ = some _›]
      exact h
    · try simp only [‹zcall _ _ = some _›]
      exact h
    · try simp only [‹zcall _ _ = some _›]
      exact h
    · cases h
  · split at h
    · split at h
      · split at h
        · split at h
          · rename_i q5
            try simp only [‹zcall _ _ = some _›, ‹zmt _ = some _›, ‹List.drop _ _ = _›]
            rw [if_pos q5]
            exact key h
          · cases h
        · cases h
      · cases h
    · split at h
      · split at h
        · split at h
          · rename_i q5
            try simp only [‹zcall _ _ = some _›, ‹zmt _ = some _›, ‹List.drop _ _ = _›]
            rw [if_pos q5]
            exact key h
          · cases h
        · cases h
      · cases h
    · try simp only [‹zcall _ _ = some _›]
      exact h
    · cases h
  · cases h
theorem zinv_le {own : Nat} {c1 c2 : Nat → List Value → zM → Option zRes} (hc : ∀ j vs M r, c1 j vs M = some r → c2 j vs M = some r) {i : Instr} {st : List Value} {M : zM} {o : List Value × zM} (h : zinv own c1 i st M = some o) : zinv own c2 i st M = some o := zinv_leM (fun j vs r h => hc j vs M r h) h
theorem zstep_leM {own : Nat} {ini : Bool} {ret : Option FieldType} {cc : ByteArray} {X : List Int32} {c1 c2 : Nat → List Value → zM → Option zRes} {st : zS} {o : zS ⊕ zRes} (hc : ∀ j vs r, c1 j vs st.2.2.2 = some r → c2 j vs st.2.2.2 = some r) (h : zstep own ini ret cc X c1 st = some o) : zstep own ini ret cc X c2 st = some o := by
  unfold zstep at h ⊢
  split at h
  · cases h
  · rename_i q1
    try simp only [q1]
    split at h
    · rename_i q2
      try simp only [q2]
      exact h
    · rename_i q2
      try simp only [q2]
      split at h
      · rename_i q3
        try simp only [q3]
        exact h
      · rename_i q3
        try simp only [q3]
        split at h
        · rename_i q4
          try simp only [q4]
          exact h
        · rename_i q4
          try simp only [q4]
          split at h
          · rename_i q5
            try simp only [q5]
            exact h
          · rename_i q5
            try simp only [q5]
            split at h
            · rename_i q6
              try simp only [q6]
              exact h
            · rename_i q6
              try simp only [q6]
              split at h
              · rename_i q7
                try simp only [zinv_leM hc q7]
                exact h
              · cases h
theorem zstep_le {own : Nat} {ini : Bool} {ret : Option FieldType} {cc : ByteArray} {X : List Int32} {c1 c2 : Nat → List Value → zM → Option zRes} (hc : ∀ j vs M r, c1 j vs M = some r → c2 j vs M = some r) {st : zS} {o : zS ⊕ zRes} (h : zstep own ini ret cc X c1 st = some o) : zstep own ini ret cc X c2 st = some o := zstep_leM (fun j vs r h => hc j vs _ r h) h
theorem zloop_le {f1 f2 : zS → Option (zS ⊕ zRes)} (hf : ∀ st o, f1 st = some o → f2 st = some o) : ∀ (n k : Nat) (st : zS) (r : zRes), n ≤ k → zloop f1 n st = some r → zloop f2 k st = some r := by
  intro n
  induction n with
  | zero => intro k st r _ h; cases h
  | succ n ih =>
    intro k st r hk h
    obtain ⟨k, rfl⟩ : ∃ k', k = k' + 1 := ⟨k - 1, by omega⟩
    unfold zloop at h ⊢
    split at h
    · cases h
    · rename_i s' hs
      try simp only [hf _ _ hs]
      exact ih k s' r (by omega) h
    · rename_i r' hs
      try simp only [hf _ _ hs]
      exact h
theorem zev_le (X : List Int32) : ∀ (d d' F F' j : Nat) (vs : List Value) (M : zM) (r : zRes), d ≤ d' → F ≤ F' → zev X F d j vs M = some r → zev X F' d' j vs M = some r := by
  intro d
  induction d with
  | zero => intro d' F F' j vs M r _ _ h; cases h
  | succ d ih =>
    intro d' F F' j vs M r hd hF h
    obtain ⟨d', rfl⟩ : ∃ k, d' = k + 1 := ⟨d' - 1, by omega⟩
    unfold zev at h ⊢
    split at h
    · rename_i q1
      try simp only [q1]
      split at h
      · rw [if_pos (by omega)]
        exact h
      · cases h
    · rename_i q1
      try simp only [q1]
      split at h
      · rename_i q2
        rw [if_pos q2]
        exact zloop_le (fun st o ho => zstep_le (fun j vs M r h => ih d' F F' j vs M r (by omega) hF h) ho) F F' _ r hF h
      · cases h
/-- a call comes back -/
def ZC (X : List Int32) (d j : Nat) (vs : List Value) (M : zM) (r : zRes) : Prop := ∃ F, zev X F d j vs M = some r
/-- a method's run comes to its end -/
def ZX (X : List Int32) (d own : Nat) (ini : Bool) (ret : Option FieldType) (cc : ByteArray) (st : zS) (r : zRes) : Prop := ∃ F, zloop (zstep own ini ret cc X (zev X F d)) F st = some r
theorem ZC.le {X : List Int32} {d d' j : Nat} {vs : List Value} {M : zM} {r : zRes} (h : ZC X d j vs M r) (hd : d ≤ d') : ZC X d' j vs M r := by
  obtain ⟨F, h⟩ := h
  exact ⟨F, zev_le X d d' F F j vs M r hd (Nat.le_refl _) h⟩
theorem ZC.of {X : List Int32} {d j ci na ml pos : Nat} {y : MethodName} {cc : ByteArray} {ret : Option FieldType} {vs : List Value} {M : zM} {r : zRes} (hz : zmt j = some (ci, na, y, cc, ml, ret, pos)) (hl : (zargs vs).length ≤ ml) (h : ZX X d ci (decide (y.name = "<init>")) ret cc (0, zent vs ml, [], M) r) : ZC X (d + 1) j vs M r := by
  obtain ⟨F, h⟩ := h
  refine ⟨F, ?_⟩
  unfold zev
  simp only [hz]
  rw [if_pos hl]
  exact h
section ZXR
variable {X : List Int32} {d own : Nat} {ini : Bool} {ret : Option FieldType} {cc : ByteArray} {r : zRes}
/-- one step that is no call -/
theorem ZX.step {st st' : zS} (h : zstep own ini ret cc X (fun _ _ _ => none) st = some (.inl st')) (k : ZX X d own ini ret cc st' r) : ZX X d own ini ret cc st r := by
  obtain ⟨F, k⟩ := k
  refine ⟨F + 1, ?_⟩
  unfold zloop
  simp only [zstep_le (c2 := zev X (F + 1) d) (fun _ _ _ _ h => by cases h) h]
  exact zloop_le (fun st o ho => zstep_le (fun j vs M r h => zev_le X d d F (F + 1) j vs M r (Nat.le_refl _) (by omega) h) ho) F F st' r (Nat.le_refl _) k
theorem ZX.fin {st : zS} (h : zstep own ini ret cc X (fun _ _ _ => none) st = some (.inr r)) : ZX X d own ini ret cc st r := by
  refine ⟨1, ?_⟩
  unfold zloop
  simp only [zstep_le (c2 := zev X 1 d) (fun _ _ _ _ h => by cases h) h]
/-- many steps that are no calls: as many as the small machine goes by itself -/
theorem ZX.steps : ∀ (n : Nat) {st st' : zS}, (Nat.rec (motive := fun _ => zS → Option zS) (fun s => some s) (fun _ f s => match zstep own ini ret cc X (fun _ _ _ => none) s with | some (.inl s') => f s' | _ => none) n st) = some st' → ZX X d own ini ret cc st' r → ZX X d own ini ret cc st r := by
  intro n
  induction n with
  | zero => intro st st' h k; cases h; exact k
  | succ n ih =>
    intro st st' h k
    dsimp only at h
    split at h
    · rename_i hs
      exact ZX.step hs (ih h k)
    · cases h
/-- a call: the callee's run, and what goes on behind it -/
theorem ZX.call {st st' : zS} {j : Nat} {vs : List Value} {r1 : zRes} (hc : ZC X d j vs st.2.2.2 r1) (h : zstep own ini ret cc X (fun j' vs' _ => if j' = j ∧ vs' = vs then some r1 else none) st = some (.inl st')) (k : ZX X d own ini ret cc st' r) : ZX X d own ini ret cc st r := by
  obtain ⟨F1, hc⟩ := hc
  obtain ⟨F, k⟩ := k
  refine ⟨F1 + F + 1, ?_⟩
  have hs : zstep own ini ret cc X (zev X (F1 + F + 1) d) st = some (.inl st') := by
    refine zstep_leM ?_ h
    intro j' vs' r' h'
    split at h'
    · rename_i q
      cases h'
      rw [q.1, q.2]
      exact zev_le X d d F1 _ j vs _ _ (Nat.le_refl _) (by omega) hc
    · cases h'
  unfold zloop
  simp only [hs]
  exact zloop_le (fun st o ho => zstep_le (fun j vs M r h => zev_le X d d F (F1 + F + 1) j vs M r (Nat.le_refl _) (by omega) h) ho) F (F1 + F) st' r (by omega) k
end ZXR
theorem zinv_ex {X : List Int32} {d own : Nat} {c1 : Nat → List Value → zM → Option zRes} {i : Instr} {st : List Value} {M : zM} {o : List Value × zM} (hc : ∀ j vs r, c1 j vs M = some r → ZC X d j vs M r) (h : zinv own c1 i st M = some o) : ∃ F, zinv own (zev X F d) i st M = some o := by
  have key : ∀ {j : Nat} {vs : List Value} {f : zRes → List Value × zM}, (c1 j vs M).map f = some o → ∃ F, (zev X F d j vs M).map f = some o := by
    intro j vs f h
    rw [Option.map_eq_some_iff] at h
    obtain ⟨q, h1, h2⟩ := h
    obtain ⟨F, hF⟩ := hc _ _ _ h1
    exact ⟨F, by rw [hF]; exact congrArg some h2⟩
  unfold zinv at h
  split at h
  · split at h
    · split at h
      · split at h
        · split at h
          · split at h
            · rename_i q5
              obtain ⟨F, hF⟩ := key h
              refine ⟨F, ?_⟩
              unfold zinv
              simp only [‹zcall _ _ = some _›, ‹zmt _ = some _›, ‹List.drop _ _ = _›, ‹zarr _ _ _ = some _›]
              rw [if_pos q5]
              exact hF
            · cases h
          · cases h
        · cases h
      · cases h
    · split at h
      · split at h
        · rename_i q5
          obtain ⟨F, hF⟩ := key h
          refine ⟨F, ?_⟩
          unfold zinv
          simp only [‹zcall _ _ = some _›]
          rw [if_pos q5]
          exact hF
        · cases h
      · cases h
    · split at h
      · split at h
        · rename_i q5
          obtain ⟨F, hF⟩ := key h
          refine ⟨F, ?_⟩
          unfold zinv
          simp only [‹zcall _ _ = some _›]
          rw [if_pos q5]
          exact hF
        · cases h
      · cases h
    · split at h
      · split at h
        · rename_i q5
          obtain ⟨F, hF⟩ := key h
          refine ⟨F, ?_⟩
          unfold zinv
          simp only [‹zcall _ _ = some _›]
          rw [if_pos q5]
          exact hF
        · cases h
      · cases h
    · cases h
  · split at h
    · split at h
      · split at h
        · rename_i q5
          obtain ⟨F, hF⟩ := key h
          refine ⟨F, ?_⟩
          unfold zinv
          simp only [‹zcall _ _ = some _›, ‹zmt _ = some _›]
          rw [if_pos q5]
          exact hF
        · cases h
      · cases h
    · refine ⟨0, ?_⟩
      unfold zinv
      simp only [‹zcall _ _ = some _›]
      exact h
    · refine ⟨0, ?_⟩
      unfold zinv
      simp only [‹zcall _ _ = some _›]
      exact h
    · refine ⟨0, ?_⟩
      unfold zinv
      simp only [‹zcall _ _ = some _›]
      exact h
    · cases h
  · split at h
    · split at h
      · split at h
        · split at h
          · rename_i q5
            obtain ⟨F, hF⟩ := key h
            refine ⟨F, ?_⟩
            unfold zinv
            simp only [‹zcall _ _ = some _›, ‹zmt _ = some _›, ‹List.drop _ _ = _›]
            rw [if_pos q5]
            exact hF
          · cases h
        · cases h
      · cases h
    · split at h
      · split at h
        · split at h
          · rename_i q5
            obtain ⟨F, hF⟩ := key h
            refine ⟨F, ?_⟩
            unfold zinv
            simp only [‹zcall _ _ = some _›, ‹zmt _ = some _›, ‹List.drop _ _ = _›]
            rw [if_pos q5]
            exact hF
          · cases h
        · cases h
      · cases h
    · refine ⟨0, ?_⟩
      unfold zinv
      simp only [‹zcall _ _ = some _›]
      exact h
    · cases h
  · cases h
theorem zstep_ex {X : List Int32} {d own : Nat} {ini : Bool} {ret : Option FieldType} {cc : ByteArray} {c1 : Nat → List Value → zM → Option zRes} {st : zS} {o : zS ⊕ zRes} (hc : ∀ j vs r, c1 j vs st.2.2.2 = some r → ZC X d j vs st.2.2.2 r) (h : zstep own ini ret cc X c1 st = some o) : ∃ F, zstep own ini ret cc X (zev X F d) st = some o := by
  unfold zstep at h
  split at h
  · cases h
  · rename_i q1
    split at h
    · rename_i q2
      refine ⟨0, ?_⟩
      unfold zstep
      simp only [q1, q2]
      exact h
    · rename_i q2
      split at h
      · rename_i q3
        refine ⟨0, ?_⟩
        unfold zstep
        simp only [q1, q2, q3]
        exact h
      · rename_i q3
        split at h
        · rename_i q4
          refine ⟨0, ?_⟩
          unfold zstep
          simp only [q1, q2, q3, q4]
          exact h
        · rename_i q4
          split at h
          · rename_i q5
            refine ⟨0, ?_⟩
            unfold zstep
            simp only [q1, q2, q3, q4, q5]
            exact h
          · rename_i q5
            split at h
            · rename_i q6
              refine ⟨0, ?_⟩
              unfold zstep
              simp only [q1, q2, q3, q4, q5, q6]
              exact h
            · rename_i q6
              split at h
              · rename_i q7
                obtain ⟨F, hF⟩ := zinv_ex hc q7
                refine ⟨F, ?_⟩
                unfold zstep
                simp only [q1, q2, q3, q4, q5, q6, hF]
                exact h
              · cases h
/-- so many steps -/
def zgo (f : zS → Option (zS ⊕ zRes)) : Nat → zS → Option zS
  | 0, s => some s
  | n + 1, s => match f s with
    | some (.inl s') => zgo f n s'
    | _ => none
/-- steps, calls among them, by a table of calls -/
theorem ZX.go {X : List Int32} {d own : Nat} {ini : Bool} {ret : Option FieldType} {cc : ByteArray} {r : zRes} {ct : Nat → List Value → zM → Option zRes} (hct : ∀ j vs M r, ct j vs M = some r → ZC X d j vs M r) : ∀ (n : Nat) {st st' : zS}, zgo (zstep own ini ret cc X ct) n st = some st' → ZX X d own ini ret cc st' r → ZX X d own ini ret cc st r := by
  intro n
  induction n with
  | zero => intro st st' h k; cases h; exact k
  | succ n ih =>
    intro st st' h k
    unfold zgo at h
    split at h
    · rename_i s' hs
      obtain ⟨F1, h1⟩ := zstep_ex (fun j vs r h => hct j vs _ r h) hs
      obtain ⟨F2, h2⟩ := ih h k
      refine ⟨F1 + F2 + 1, ?_⟩
      have hs2 : zstep own ini ret cc X (zev X (F1 + F2 + 1) d) st = some (.inl s') := zstep_le (fun j vs M r h => zev_le X d d F1 _ j vs M r (Nat.le_refl _) (by omega) h) h1
      unfold zloop
      simp only [hs2]
      exact zloop_le (fun st o ho => zstep_le (fun j vs M r h => zev_le X d d F2 (F1 + F2 + 1) j vs M r (Nat.le_refl _) (by omega) h) ho) F2 (F1 + F2) s' r (by omega) h2
    · cases h
/-- the last step, by a table of calls -/
theorem ZX.gofin {X : List Int32} {d own : Nat} {ini : Bool} {ret : Option FieldType} {cc : ByteArray} {r : zRes} {ct : Nat → List Value → zM → Option zRes} {st : zS} (h : zstep own ini ret cc X ct st = some (.inr r)) : ZX X d own ini ret cc st r := by
  refine ⟨1, ?_⟩
  obtain ⟨i, h1, h2, h3⟩ := zstep_end h
  have h4 : zstep own ini ret cc X (zev X 1 d) st = some (.inr r) := by
    unfold zstep
    simp only [h1, h2]
    rw [if_pos trivial, ← h3]
  unfold zloop
  simp only [h4]
