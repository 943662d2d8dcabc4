/-! readFact, readTest, step by step -/
section FCT
variable {c : Nat} {s0 : zF}
/-- a FACT is due -/
def FPR (c : Nat) (s0 g : zF) : Prop := TW g ∧ EN s0 g ∧ s0 2 7 ≤ g 2 7 ∧ ∀ (kd : Int) (st : List zFm), isT kd = true → st.length = c → amTo (toks s0) ((s0 2 7).toNat, (kd, 0, true) :: st, false) ((g 2 7).toNat, (kd, 0, true) :: st, false)
def ph12 (t : zK) (i : Nat) (ph : Int) : Prop := ph = 1 ∧ opB t i = false ∨ ph = 2
/-- a FACT is behind us -/
def FPO (c : Nat) (s0 g : zF) : Prop := TW g ∧ EN s0 g ∧ s0 2 7 < g 2 7 ∧ ∀ (kd : Int) (st : List zFm), isT kd = true → st.length = c → ∃ ph, ph12 (toks s0) (g 2 7).toNat ph ∧ amTo (toks s0) ((s0 2 7).toNat, (kd, 0, true) :: st, false) ((g 2 7).toNat, (kd, ph, false) :: st, true)
theorem ph12_or {t : zK} {i : Nat} {ph : Int} (h : ph12 t i ph) : (ph = 1 ∨ ph = 2) ∧ (ph = 1 → opB t i = false) := by
  rcases h with ⟨a, b⟩ | a
  · exact ⟨Or.inl a, fun _ => b⟩
  · exact ⟨Or.inr a, fun z => by omega⟩
theorem FPR_0 (ht : TW s0) : FPR c s0 s0 := ⟨ht, EN_refl, Int.le_refl _, fun kd st _ _ => amTo_refl⟩
theorem tok_k {g : zF} (e : EN s0 g) {i : Nat} (h : tokI (toks s0) i ≠ -1) : g 4 i = 2 := by
  have := tokI_2 h
  rw [← e.1] at this
  exact this
theorem FPR_not {g g' : zF} (h : FPR c s0 g) (hw : tokI (toks s0) (g 2 7).toNat = 23) (q : g' = stp g) : FPR c s0 g' ∧ g' 2 7 = g 2 7 + 1 := by
  obtain ⟨tw, e, le, h⟩ := h
  have k := tok_k e (i := (g 2 7).toNat) (by omega)
  obtain ⟨w, d, m, f⟩ := stp_ok tw (by omega) (by omega) q
  refine ⟨⟨w, EN_trans e f, by omega, fun kd st hk hl => amTo_trans (h kd st hk hl) ?_⟩, d⟩
  rw [m]
  exact amTo_1 (am_not hk hw)
theorem FPO_en {g g' : zF} (h : FPO c s0 g) (e : EN g g') (e2 : g' 2 = g 2) : FPO c s0 g' := by
  obtain ⟨tw, e0, lt, h⟩ := h
  have e7 : g' 2 7 = g 2 7 := by rw [e2]
  refine ⟨TW_en tw e e7, EN_trans e0 e, by omega, ?_⟩
  rw [e7]
  exact h
theorem FPR_all {g g' : zF} (h : FPR c s0 g) (hw : tokI (toks s0) (g 2 7).toNat = 24) (q : g' = stp g) : FPO c s0 g' := by
  obtain ⟨tw, e, le, h⟩ := h
  have k := tok_k e (i := (g 2 7).toNat) (by omega)
  obtain ⟨w, d, m, f⟩ := stp_ok tw (by omega) (by omega) q
  refine ⟨w, EN_trans e f, by omega, fun kd st hk hl => ⟨2, Or.inr rfl, amTo_trans (h kd st hk hl) ?_⟩⟩
  rw [m]
  exact amTo_1 (am_all hk hw)
/-- a TEST in [ ] is due -/
def SQO (c : Nat) (s0 g : zF) : Prop := TW g ∧ EN s0 g ∧ s0 2 7 < g 2 7 ∧ ∀ (kd : Int) (st : List zFm), isT kd = true → st.length = c → amTo (toks s0) ((s0 2 7).toNat, (kd, 0, true) :: st, false) ((g 2 7).toNat, (5, 0, true) :: (kd, 0, false) :: st, false)
def SQD (c : Nat) (s0 g : zF) : Prop := TW g ∧ EN s0 g ∧ s0 2 7 < g 2 7 ∧ aoB (toks s0) (g 2 7).toNat = false ∧ ∀ (kd : Int) (st : List zFm), isT kd = true → st.length = c → ∃ ph, ph12 (toks s0) (g 2 7).toNat ph ∧ amTo (toks s0) ((s0 2 7).toNat, (kd, 0, true) :: st, false) ((g 2 7).toNat, (5, ph, false) :: (kd, 0, false) :: st, true)
theorem FPR_sq {g g' : zF} (h : FPR c s0 g) (hc : c ≠ 8) (hs : sgB (toks s0) 91 (g 2 7).toNat = true) (q : g' = stp g) : SQO c s0 g' := by
  obtain ⟨tw, e, le, h⟩ := h
  have k := sg_k e hs
  obtain ⟨w, d, m, f⟩ := stp_ok tw (by omega) (by omega) q
  refine ⟨w, EN_trans e f, by omega, fun kd st hk hl => amTo_trans (h kd st hk hl) ?_⟩
  rw [m]
  exact amTo_1 (am_sq hk hs (by omega))
theorem FPR_sq8 {g g' : zF} {v : Int} (h : FPR c s0 g) (hc : c = 8) (hs : sgB (toks s0) 91 (g 2 7).toNat = true) (hv : v = 0) (q : (g' 2 0, g' 2 1) = ((5 : Int), g 6 (g 2 7).toNat)) : RFp c s0 v g' := by
  obtain ⟨tw, e, le, h⟩ := h
  refine ⟨fun z => by omega, fun kd st hk hl => ⟨2, Or.inr rfl, Or.inr ⟨hv, amTo_fin (h kd st hk hl) ?_⟩⟩⟩
  rw [q, (en_tok e).2.2]
  exact amFin_1 (am_sq8 hk hs (by omega))
theorem SQO_test {g g' : zF} {v : Int} (h : SQO c s0 g) (r : RTp (c + 1) g v g') (e : EN g g') (hv : ¬ v = 0) (hv2 : v ≤ 1) (hv3 : 0 ≤ v) : SQD c s0 g' := by
  obtain ⟨tw, e0, lt, h⟩ := h
  obtain ⟨r1, r2⟩ := r
  have v1 : v = 1 := by omega
  obtain ⟨r3, r4⟩ := r1 v1
  rw [e0.1] at r2 r4
  obtain ⟨p, -, one⟩ := r2 5 ((0, 0, false) :: List.replicate c (0, 0, false)) (by decide) (by simp)
  refine ⟨(PA_to one hv).2, EN_trans e0 e, by omega, r4, fun kd st hk hl => ?_⟩
  obtain ⟨ph, hp, ha⟩ := r2 5 ((kd, 0, false) :: st) (by decide) (by rw [List.length_cons, hl])
  refine ⟨ph, ?_, amTo_trans (h kd st hk hl) (PA_to ha hv).1⟩
  rcases hp with ⟨a, b⟩ | a
  · exact Or.inl ⟨a, b v1⟩
  · exact Or.inr a
theorem SQO_test0 {g g' : zF} {v : Int} (h : SQO c s0 g) (r : RTp (c + 1) g v g') (hv : v = 0) : RFp c s0 0 g' := by
  obtain ⟨tw, e0, lt, h⟩ := h
  obtain ⟨r1, r2⟩ := r
  rw [e0.1] at r2
  refine ⟨fun z => absurd z (by decide), fun kd st hk hl => ⟨2, Or.inr rfl, Or.inr ⟨rfl, amTo_fin (h kd st hk hl) ?_⟩⟩⟩
  obtain ⟨ph, hp, ha⟩ := r2 5 ((kd, 0, false) :: st) (by decide) (by rw [List.length_cons, hl])
  exact PA_fin ha hv
theorem SQD_close {g g' : zF} (h : SQD c s0 g) (hs : sgB (toks s0) 93 (g 2 7).toNat = true) (q : g' = stp g) : FPO c s0 g' := by
  obtain ⟨tw, e, lt, ao, h⟩ := h
  have k := sg_k e hs
  obtain ⟨w, d, m, f⟩ := stp_ok tw (by omega) (by omega) q
  refine ⟨w, EN_trans e f, by omega, fun kd st hk hl => ?_⟩
  obtain ⟨ph, hp, ha⟩ := h kd st hk hl
  refine ⟨2, Or.inr rfl, amTo_trans ha ?_⟩
  rw [m]
  exact amTo_1 (am_sqc (ph12_or hp).1 (ph12_or hp).2 ao hs)
theorem SQD_close0 {g g' : zF} {v : Int} (h : SQD c s0 g) (hs : sgB (toks s0) 93 (g 2 7).toNat = false) (hv : v = 0) (q : (g' 2 0, g' 2 1) = flt (toks s0) (g 2 7).toNat) : RFp c s0 v g' := by
  obtain ⟨tw, e, lt, ao, h⟩ := h
  refine ⟨fun z => by omega, fun kd st hk hl => ⟨2, Or.inr rfl, Or.inr ⟨hv, ?_⟩⟩⟩
  obtain ⟨ph, hp, ha⟩ := h kd st hk hl
  rw [q]
  exact amTo_fin ha (amFin_1 (am_sqc0 (ph12_or hp).1 (ph12_or hp).2 ao hs))
/-- the left SUM of a comparison is read -/
def CM1 (c : Nat) (s0 g : zF) : Prop := TW g ∧ EN s0 g ∧ s0 2 7 < g 2 7 ∧ opB (toks s0) (g 2 7).toNat = false ∧ ∀ (kd : Int) (st : List zFm), isT kd = true → st.length = c → amTo (toks s0) ((s0 2 7).toNat, (kd, 0, true) :: st, false) ((g 2 7).toNat, (kd, 0, false) :: st, true)
def CM2 (c : Nat) (s0 g : zF) : Prop := TW g ∧ EN s0 g ∧ s0 2 7 < g 2 7 ∧ ∀ (kd : Int) (st : List zFm), isT kd = true → st.length = c → amTo (toks s0) ((s0 2 7).toNat, (kd, 0, true) :: st, false) ((g 2 7).toNat, (kd, 1, false) :: st, false)
theorem FPR_sum {g g' : zF} {v : Int} (h : FPR c s0 g) (h23 : tokI (toks s0) (g 2 7).toNat ≠ 23) (h24 : tokI (toks s0) (g 2 7).toNat ≠ 24) (hs : sgB (toks s0) 91 (g 2 7).toNat = false) (r : RSp c g v g') (e : EN g g') (hv : ¬ v = 0) (hv2 : v ≤ 1) (hv3 : 0 ≤ v) : CM1 c s0 g' := by
  obtain ⟨tw, e0, le, h⟩ := h
  obtain ⟨r1, r2⟩ := r
  obtain ⟨r3, r4⟩ := r1 (by omega)
  rw [e0.1] at r2 r4
  have fr : ∀ kd, frst (toks s0) (g 2 7).toNat kd true := fun kd _ _ => ⟨h23, h24, hs⟩
  have one := PA_to (r2 0 0 true (List.replicate c (0, 0, false)) (by simp) (by decide) (fr 0)) hv
  exact ⟨one.2, EN_trans e0 e, by omega, r4, fun kd st hk hl => amTo_trans (h kd st hk hl) (PA_to (r2 kd 0 true st hl (by decide) (fr kd)) hv).1⟩
theorem FPR_sum0 {g g' : zF} {v : Int} (h : FPR c s0 g) (h23 : tokI (toks s0) (g 2 7).toNat ≠ 23) (h24 : tokI (toks s0) (g 2 7).toNat ≠ 24) (hs : sgB (toks s0) 91 (g 2 7).toNat = false) (r : RSp c g v g') (hv : v = 0) : RFp c s0 0 g' := by
  obtain ⟨tw, e0, le, h⟩ := h
  obtain ⟨r1, r2⟩ := r
  rw [e0.1] at r2
  exact ⟨fun z => absurd z (by decide), fun kd st hk hl => ⟨2, Or.inr rfl, Or.inr ⟨rfl, amTo_fin (h kd st hk hl) (PA_fin (r2 kd 0 true st hl (by decide) (fun _ _ => ⟨h23, h24, hs⟩)) hv)⟩⟩⟩
theorem cmB_3 {t : zK} {i : Nat} (h : sgB t 60 i = true ∨ sgB t 62 i = true ∨ sgB t 61 i = true) : cmB t i = true := by
  unfold cmB
  rcases h with z | z | z <;> rw [z] <;> simp
theorem cmB_0 {t : zK} {i : Nat} (a : sgB t 60 i = false) (b : sgB t 62 i = false) (d : sgB t 61 i = false) : cmB t i = false := by
  unfold cmB
  rw [a, b, d]
  rfl
theorem cmB_k {t : zK} {i : Nat} (h : cmB t i = true) : t.1 i = 5 := by
  by_cases z : t.1 i = 5
  · exact z
  · unfold cmB at h
    rw [sgB_ne z, sgB_ne z, sgB_ne z] at h
    exact absurd h (by decide)
theorem CM1_cmp {g g' : zF} (h : CM1 c s0 g) (hc : cmB (toks s0) (g 2 7).toNat = true) (q : g' = stp g) : CM2 c s0 g' := by
  obtain ⟨tw, e, lt, op, h⟩ := h
  have k : g 4 (g 2 7).toNat = 5 := by
    have := cmB_k hc
    rw [← e.1] at this
    exact this
  obtain ⟨w, d, m, f⟩ := stp_ok tw (by omega) (by omega) q
  refine ⟨w, EN_trans e f, by omega, fun kd st hk hl => amTo_trans (h kd st hk hl) ?_⟩
  rw [m]
  exact amTo_1 (am_cmp hk op hc)
theorem CM1_none {g g' : zF} {v : Int} (h : CM1 c s0 g) (hc : cmB (toks s0) (g 2 7).toNat = false) (hv : v = 0) (q : (g' 2 0, g' 2 1) = flt (toks s0) (g 2 7).toNat) : RFp c s0 v g' := by
  obtain ⟨tw, e, lt, op, h⟩ := h
  refine ⟨fun z => by omega, fun kd st hk hl => ⟨2, Or.inr rfl, Or.inr ⟨hv, ?_⟩⟩⟩
  rw [q]
  exact amTo_fin (h kd st hk hl) (amFin_1 (am_cmp0 hk op hc))
theorem CM2_sum {g g' : zF} {v : Int} (h : CM2 c s0 g) (r : RSp c g v g') (e : EN g g') (hv : ¬ v = 0) (hv2 : v ≤ 1) (hv3 : 0 ≤ v) : FPO c s0 g' := by
  obtain ⟨tw, e0, lt, h⟩ := h
  obtain ⟨r1, r2⟩ := r
  obtain ⟨r3, r4⟩ := r1 (by omega)
  rw [e0.1] at r2 r4
  have one := PA_to (r2 0 0 false (List.replicate c (0, 0, false)) (by simp) (by decide) frst_n) hv
  exact ⟨one.2, EN_trans e0 e, by omega, fun kd st hk hl => ⟨1, Or.inl ⟨rfl, r4⟩, amTo_trans (h kd st hk hl) (PA_to (r2 kd 1 false st hl (by decide) frst_n) hv).1⟩⟩
theorem CM2_sum0 {g g' : zF} {v : Int} (h : CM2 c s0 g) (r : RSp c g v g') (hv : v = 0) : RFp c s0 0 g' := by
  obtain ⟨tw, e0, lt, h⟩ := h
  obtain ⟨r1, r2⟩ := r
  rw [e0.1] at r2
  exact ⟨fun z => absurd z (by decide), fun kd st hk hl => ⟨2, Or.inr rfl, Or.inr ⟨rfl, amTo_fin (h kd st hk hl) (PA_fin (r2 kd 1 false st hl (by decide) frst_n) hv)⟩⟩⟩
theorem FPO_fact {g : zF} (h : FPO c s0 g) : RFp c s0 1 g := by
  obtain ⟨tw, e, lt, h⟩ := h
  refine ⟨fun _ => lt, fun kd st hk hl => ?_⟩
  obtain ⟨ph, hp, ha⟩ := h kd st hk hl
  refine ⟨ph, ?_, Or.inl ⟨rfl, ha, tw⟩⟩
  rcases hp with ⟨a, b⟩ | a
  · exact Or.inl ⟨a, fun _ => b⟩
  · exact Or.inr a
/-- a FACT within a TEST -/
theorem FPR_fact {g g' : zF} {v : Int} (h : FPR c s0 g) (r : RFp c g v g') (e : EN g g') (hv : ¬ v = 0) (hv2 : v ≤ 1) (hv3 : 0 ≤ v) : FPO c s0 g' ∧ g 2 7 < g' 2 7 := by
  obtain ⟨tw, e0, le, h⟩ := h
  obtain ⟨r1, r2⟩ := r
  have v1 : v = 1 := by omega
  have lt := r1 v1
  rw [e0.1] at r2
  obtain ⟨p, -, one⟩ := r2 1 (List.replicate c (0, 0, false)) (by decide) (by simp)
  refine ⟨⟨(PA_to one hv).2, EN_trans e0 e, by omega, fun kd st hk hl => ?_⟩, lt⟩
  obtain ⟨ph, hp, ha⟩ := r2 kd st hk hl
  refine ⟨ph, ?_, amTo_trans (h kd st hk hl) (PA_to ha hv).1⟩
  rcases hp with ⟨a, b⟩ | a
  · exact Or.inl ⟨a, b v1⟩
  · exact Or.inr a
theorem FPR_fact0 {g g' : zF} {v : Int} (h : FPR c s0 g) (r : RFp c g v g') (hv : v = 0) : RTp c s0 0 g' := by
  obtain ⟨tw, e0, le, h⟩ := h
  obtain ⟨r1, r2⟩ := r
  rw [e0.1] at r2
  refine ⟨fun z => absurd z (by decide), fun kd st hk hl => ⟨2, Or.inr rfl, Or.inr ⟨rfl, amTo_fin (h kd st hk hl) ?_⟩⟩⟩
  obtain ⟨ph, hp, ha⟩ := r2 kd st hk hl
  exact PA_fin ha hv
theorem FPO_ao {g g' : zF} (h : FPO c s0 g) (hw : tokI (toks s0) (g 2 7).toNat = 22 ∨ tokI (toks s0) (g 2 7).toNat = 21) (q : g' = stp g) : FPR c s0 g' ∧ g' 2 7 = g 2 7 + 1 := by
  obtain ⟨tw, e, lt, h⟩ := h
  have k := tok_k e (i := (g 2 7).toNat) (by omega)
  obtain ⟨w, d, m, f⟩ := stp_ok tw (by omega) (by omega) q
  refine ⟨⟨w, EN_trans e f, by omega, fun kd st hk hl => ?_⟩, d⟩
  obtain ⟨ph, hp, ha⟩ := h kd st hk hl
  refine amTo_trans ha ?_
  rw [m]
  refine amTo_1 (am_ao hk (ph12_or hp).1 (ph12_or hp).2 ?_)
  unfold aoB
  rcases hw with z | z <;> rw [z] <;> decide
theorem FPO_end {g : zF} (h : FPO c s0 g) (h1 : tokI (toks s0) (g 2 7).toNat ≠ 22) (h2 : tokI (toks s0) (g 2 7).toNat ≠ 21) : RTp c s0 1 g := by
  obtain ⟨tw, e, lt, h⟩ := h
  refine ⟨fun _ => ⟨lt, ?_⟩, fun kd st hk hl => ?_⟩
  · unfold aoB
    rw [decide_eq_false h1, decide_eq_false h2]
    rfl
  · obtain ⟨ph, hp, ha⟩ := h kd st hk hl
    refine ⟨ph, ?_, Or.inl ⟨rfl, ha, tw⟩⟩
    rcases hp with ⟨a, b⟩ | a
    · exact Or.inl ⟨a, fun _ => b⟩
    · exact Or.inr a
end FCT
