/-! readSum, step by step -/
section SUMS
variable {c : Nat} {s0 : zF}
theorem TW_b {s : zF} (h : TW s) : 0 ≤ s 2 7 ∧ s 2 7 ≤ 1600 := by
  obtain ⟨a, b, d, -⟩ := h
  omega
/-- an operand is due -/
def PRE (c : Nat) (s0 g : zF) : Prop := TW g ∧ EN s0 g ∧ s0 2 7 ≤ g 2 7 ∧ ∀ (kd ph : Int) (bg : Bool) (st : List zFm), st.length = c → ph < 2 → frst (toks s0) (s0 2 7).toNat kd bg → ∃ b, frst (toks s0) (g 2 7).toNat kd b ∧ amTo (toks s0) ((s0 2 7).toNat, (kd, ph, bg) :: st, false) ((g 2 7).toNat, (kd, ph, b) :: st, false)
/-- an operand is behind us -/
def POS (c : Nat) (s0 g : zF) : Prop := TW g ∧ EN s0 g ∧ s0 2 7 < g 2 7 ∧ ∀ (kd ph : Int) (bg : Bool) (st : List zFm), st.length = c → ph < 2 → frst (toks s0) (s0 2 7).toNat kd bg → amTo (toks s0) ((s0 2 7).toNat, (kd, ph, bg) :: st, false) ((g 2 7).toNat, (kd, ph, false) :: st, true)
theorem PRE_0 (ht : TW s0) : PRE c s0 s0 := ⟨ht, EN_refl, Int.le_refl _, fun kd ph bg st _ _ hf => ⟨bg, hf, amTo_refl⟩⟩
theorem PRE_part {g g' : zF} {v : Int} (h : PRE c s0 g) (r : RPp c g v g') (e : EN g g') (hv : ¬ v = 0) (hv2 : v ≤ 1) (hv3 : 0 ≤ v) : POS c s0 g' ∧ g 2 7 < g' 2 7 := by
  obtain ⟨tw, e0, le, h⟩ := h
  obtain ⟨r1, r2⟩ := r
  have lt := r1 (by omega)
  rw [e0.1] at r2
  have one := PA_to (r2 0 0 false (List.replicate c (0, 0, false)) (by simp) frst_n) hv
  refine ⟨⟨one.2, EN_trans e0 e, by omega, fun kd ph bg st hl hp hf => ?_⟩, lt⟩
  obtain ⟨b, hb, ha⟩ := h kd ph bg st hl hp hf
  exact amTo_trans ha (PA_to (r2 kd ph b st hl hb) hv).1
theorem PRE_part0 {g g' : zF} {v : Int} (h : PRE c s0 g) (r : RPp c g v g') (hv : v = 0) : RSp c s0 0 g' := by
  obtain ⟨tw, e0, le, h⟩ := h
  obtain ⟨r1, r2⟩ := r
  rw [e0.1] at r2
  refine ⟨fun z => absurd z (by decide), fun kd ph bg st hl hp hf => Or.inr ⟨rfl, ?_⟩⟩
  obtain ⟨b, hb, ha⟩ := h kd ph bg st hl hp hf
  exact amTo_fin ha (PA_fin (r2 kd ph b st hl hb) hv)
theorem POS_en {g g' : zF} (h : POS c s0 g) (e : EN g g') (e2 : g' 2 = g 2) : POS c s0 g' := by
  obtain ⟨tw, e0, lt, h⟩ := h
  have e7 : g' 2 7 = g 2 7 := by rw [e2]
  refine ⟨TW_en tw e e7, EN_trans e0 e, by omega, ?_⟩
  rw [e7]
  exact h
theorem opB_k {t : zK} {i : Nat} (h : opB t i = true) : t.1 i = 5 := by
  by_cases z : t.1 i = 5
  · exact z
  · unfold opB at h
    rw [sgB_ne z, sgB_ne z, sgB_ne z, sgB_ne z, sgB_ne z] at h
    exact absurd h (by decide)
theorem POS_op {g g' : zF} (h : POS c s0 g) (ho : opB (toks s0) (g 2 7).toNat = true) (q : g' = stp g) : PRE c s0 g' ∧ g' 2 7 = g 2 7 + 1 := by
  obtain ⟨tw, e, lt, h⟩ := h
  have k : g 4 (g 2 7).toNat = 5 := by
    have := opB_k ho
    rw [← e.1] at this
    exact this
  obtain ⟨w, d, m, f⟩ := stp_ok tw (by omega) (by omega) q
  refine ⟨⟨w, EN_trans e f, by omega, fun kd ph bg st hl hp hf => ⟨false, frst_n, amTo_trans (h kd ph bg st hl hp hf) ?_⟩⟩, d⟩
  rw [m]
  exact amTo_1 (am_op hp ho)
theorem POS_end {g : zF} (h : POS c s0 g) (ho : opB (toks s0) (g 2 7).toNat = false) : RSp c s0 1 g := by
  obtain ⟨tw, e, lt, h⟩ := h
  exact ⟨fun _ => ⟨lt, ho⟩, fun kd ph bg st hl hp hf => Or.inl ⟨rfl, h kd ph bg st hl hp hf, tw⟩⟩
theorem opB_3 {t : zK} {i : Nat} (h : sgB t 42 i = true ∨ sgB t 47 i = true ∨ sgB t 37 i = true) : opB t i = true := by
  unfold opB
  rcases h with z | z | z <;> rw [z] <;> simp
theorem opB_2 {t : zK} {i : Nat} (h : sgB t 43 i = true ∨ sgB t 45 i = true) : opB t i = true := by
  unfold opB
  rcases h with z | z <;> rw [z] <;> simp
theorem opB_0 {t : zK} {i : Nat} (a : sgB t 43 i = false) (b : sgB t 45 i = false) (d : sgB t 42 i = false ∧ sgB t 47 i = false ∧ sgB t 37 i = false) : opB t i = false := by
  unfold opB
  rw [a, b, d.1, d.2.1, d.2.2]
  rfl
end SUMS
