/-! readPart, step by step -/
section PRT
variable {c : Nat} {s0 : zF}
theorem en_tok {s g : zF} (e : EN s g) : g 4 = s 4 ∧ g 5 = s 5 ∧ g 6 = s 6 := ⟨congrArg Prod.fst e.1, congrArg (fun x => x.2.1) e.1, congrArg (fun x => x.2.2) e.1⟩
theorem part_val {g g' : zF} (ht : TW s0) (e : EN s0 g) (e2 : g 2 = s0 2) (q : g' = stp g) (hv : s0 4 (s0 2 7).toNat = 4 ∨ 0 ≤ tokI (toks s0) (s0 2 7).toNat ∧ tokI (toks s0) (s0 2 7).toNat < 7) : RPp c s0 1 g' := by
  have k : g 4 (g 2 7).toNat = 4 ∨ g 4 (g 2 7).toNat = 2 := by
    rw [(en_tok e).1, e2]
    rcases hv with z | z
    · exact Or.inl z
    · exact Or.inr (tokI_2 (t := toks s0) (by omega))
  obtain ⟨w, d, m, f⟩ := stp_ok (TW_en ht e (by rw [e2])) (by omega) (by omega) q
  refine ⟨fun _ => by rw [d, e2]; omega, fun kd ph bg st hl hf => Or.inl ⟨rfl, ?_, w⟩⟩
  rw [m, e2]
  exact amTo_1 (am_val hf hv)
/-- ahead of the ( -/
def APar (s0 g : zF) (pr : Int) : Prop := TW g ∧ EN s0 g ∧ (pr = 0 ∧ g 2 7 = s0 2 7 ∧ s0 4 (s0 2 7).toNat ≠ 4 ∧ (tokI (toks s0) (s0 2 7).toNat = -1 ∨ 7 ≤ tokI (toks s0) (s0 2 7).toNat) ∧ tokI (toks s0) (s0 2 7).toNat ≠ 25 ∧ tokI (toks s0) (s0 2 7).toNat ≠ 26 ∨ pr = 1 ∧ g 2 7 = s0 2 7 + 1 ∧ 0 ≤ s0 2 7 ∧ (tokI (toks s0) (s0 2 7).toNat = 25 ∨ tokI (toks s0) (s0 2 7).toNat = 26))
def frk (pr : Int) : Int := if pr = 0 then 2 else 3
/-- a frame lies there, no operand behind us -/
def OPN (c : Nat) (s0 g : zF) (K : Int) (b : Bool) : Prop := TW g ∧ EN s0 g ∧ s0 2 7 < g 2 7 ∧ ∀ (kd ph : Int) (bg : Bool) (st : List zFm), st.length = c → frst (toks s0) (s0 2 7).toNat kd bg → amTo (toks s0) ((s0 2 7).toNat, (kd, ph, bg) :: st, false) ((g 2 7).toNat, (K, 0, b) :: (kd, ph, false) :: st, false)
/-- the frame's SUM is read -/
def SMD (c : Nat) (s0 g : zF) (K : Int) : Prop := TW g ∧ EN s0 g ∧ s0 2 7 < g 2 7 ∧ opB (toks s0) (g 2 7).toNat = false ∧ ∀ (kd ph : Int) (bg : Bool) (st : List zFm), st.length = c → frst (toks s0) (s0 2 7).toNat kd bg → amTo (toks s0) ((s0 2 7).toNat, (kd, ph, bg) :: st, false) ((g 2 7).toNat, (K, 0, false) :: (kd, ph, false) :: st, true)
theorem APar_open {g g' : zF} {pr : Int} (h : APar s0 g pr) (hc : c ≠ 8) (hs : sgB (toks s0) 40 (g 2 7).toNat = true) (q : g' = stp g) : OPN c s0 g' (frk pr) true := by
  obtain ⟨tw, e, h⟩ := h
  have k := sg_k e hs
  obtain ⟨w, d, m, f⟩ := stp_ok tw (by omega) (by omega) q
  refine ⟨w, EN_trans e f, by omega, fun kd ph bg st hl hf => ?_⟩
  rw [m]
  rcases h with ⟨h1, h2, h3, h4, h5, h6⟩ | ⟨h1, h2, h3, h4⟩
  · subst h1
    rw [h2] at hs ⊢
    exact amTo_1 (am_par hf hs (by omega))
  · subst h1
    have e1 : (g 2 7).toNat = (s0 2 7).toNat + 1 := by omega
    rw [e1] at hs ⊢
    exact amTo_1 (am_mm hf h4 hs (by omega))
theorem APar_full {g g' : zF} {pr v : Int} (h : APar s0 g pr) (hc : c = 8) (hs : sgB (toks s0) 40 (g 2 7).toNat = true) (hv : v = 0) (q : (g' 2 0, g' 2 1) = ((5 : Int), g 6 (g 2 7).toNat)) : RPp c s0 v g' := by
  obtain ⟨tw, e, h⟩ := h
  refine ⟨fun z => by omega, fun kd ph bg st hl hf => Or.inr ⟨hv, ?_⟩⟩
  rw [q, (en_tok e).2.2]
  rcases h with ⟨h1, h2, h3, h4, h5, h6⟩ | ⟨h1, h2, h3, h4⟩
  · rw [h2] at hs ⊢
    exact amFin_1 (am_par8 hf hs (by omega))
  · have e1 : (g 2 7).toNat = (s0 2 7).toNat + 1 := by omega
    rw [e1] at hs ⊢
    exact amFin_1 (am_mm8 hf h4 hs (by omega))
theorem APar_none {g g' : zF} {pr v : Int} (h : APar s0 g pr) (hs : sgB (toks s0) 40 (g 2 7).toNat = false) (hv : v = 0) (q : (g' 2 0, g' 2 1) = flt (toks s0) (g 2 7).toNat) : RPp c s0 v g' := by
  obtain ⟨tw, e, h⟩ := h
  refine ⟨fun z => by omega, fun kd ph bg st hl hf => Or.inr ⟨hv, ?_⟩⟩
  rw [q]
  rcases h with ⟨h1, h2, h3, h4, h5, h6⟩ | ⟨h1, h2, h3, h4⟩
  · rw [h2] at hs ⊢
    exact amFin_1 (am_flt hf h3 h4 h5 h6 hs)
  · have e1 : (g 2 7).toNat = (s0 2 7).toNat + 1 := by omega
    rw [e1] at hs ⊢
    exact amFin_1 (am_mm0 hf h4 hs)
theorem frk_cases {pr : Int} (h : pr = 0 ∨ pr = 1) : pr = 0 ∧ frk pr = 2 ∨ pr = 1 ∧ frk pr = 3 := by
  rcases h with z | z
  · subst z
    exact Or.inl ⟨rfl, rfl⟩
  · subst z
    exact Or.inr ⟨rfl, rfl⟩
/-- the SUM in the frame -/
theorem OPN_sum {g g' : zF} {K v : Int} {b : Bool} (h : OPN c s0 g K b) (hK : K = 2 ∨ K = 3 ∨ K = 4) (r : RSp (c + 1) g v g') (e : EN g g') (hv : ¬ v = 0) (hv2 : v ≤ 1) (hv3 : 0 ≤ v) : SMD c s0 g' K := by
  obtain ⟨tw, e0, lt, h⟩ := h
  obtain ⟨r1, r2⟩ := r
  obtain ⟨r3, r4⟩ := r1 (by omega)
  rw [e0.1] at r2 r4
  have fr : ∀ i b, frst (toks s0) i K b := by
    intro i b
    rcases hK with z | z | z <;> subst z
    · exact frst_2
    · exact frst_3
    · exact frst_4
  have one := PA_to (r2 K 0 b ((0, 0, false) :: List.replicate c (0, 0, false)) (by simp) (by decide) (fr _ _)) hv
  refine ⟨one.2, EN_trans e0 e, by omega, r4, fun kd ph bg st hl hf => amTo_trans (h kd ph bg st hl hf) ?_⟩
  exact (PA_to (r2 K 0 b ((kd, ph, false) :: st) (by rw [List.length_cons, hl]) (by decide) (fr _ _)) hv).1
theorem OPN_sum0 {g g' : zF} {K v : Int} {b : Bool} (h : OPN c s0 g K b) (hK : K = 2 ∨ K = 3 ∨ K = 4) (r : RSp (c + 1) g v g') (hv : v = 0) : RPp c s0 0 g' := by
  obtain ⟨tw, e0, lt, h⟩ := h
  obtain ⟨r1, r2⟩ := r
  rw [e0.1] at r2
  have fr : ∀ i b, frst (toks s0) i K b := by
    intro i b
    rcases hK with z | z | z <;> subst z
    · exact frst_2
    · exact frst_3
    · exact frst_4
  refine ⟨fun z => absurd z (by decide), fun kd ph bg st hl hf => Or.inr ⟨rfl, amTo_fin (h kd ph bg st hl hf) ?_⟩⟩
  exact PA_fin (r2 K 0 b ((kd, ph, false) :: st) (by rw [List.length_cons, hl]) (by decide) (fr _ _)) hv
theorem SMD_en {g g' : zF} {K : Int} (h : SMD c s0 g K) (e : EN g g') (e2 : g' 2 = g 2) : SMD c s0 g' K := by
  obtain ⟨tw, e0, lt, op, h⟩ := h
  have e7 : g' 2 7 = g 2 7 := by rw [e2]
  refine ⟨TW_en tw e e7, EN_trans e0 e, by omega, ?_, ?_⟩
  · rw [e7]
    exact op
  · rw [e7]
    exact h
theorem SMD_comma {g g' : zF} (h : SMD c s0 g 3) (hs : sgB (toks s0) 44 (g 2 7).toNat = true) (q : g' = stp g) : OPN c s0 g' 4 false := by
  obtain ⟨tw, e, lt, op, h⟩ := h
  have k := sg_k e hs
  obtain ⟨w, d, m, f⟩ := stp_ok tw (by omega) (by omega) q
  refine ⟨w, EN_trans e f, by omega, fun kd ph bg st hl hf => amTo_trans (h kd ph bg st hl hf) ?_⟩
  rw [m]
  exact amTo_1 (am_comma op hs)
theorem SMD_comma0 {g g' : zF} {v : Int} (h : SMD c s0 g 3) (hs : sgB (toks s0) 44 (g 2 7).toNat = false) (hv : v = 0) (q : (g' 2 0, g' 2 1) = flt (toks s0) (g 2 7).toNat) : RPp c s0 v g' := by
  obtain ⟨tw, e, lt, op, h⟩ := h
  refine ⟨fun z => by omega, fun kd ph bg st hl hf => Or.inr ⟨hv, amTo_fin (h kd ph bg st hl hf) ?_⟩⟩
  rw [q]
  exact amFin_1 (am_comma0 op hs)
theorem SMD_close {g g' : zF} {K : Int} (h : SMD c s0 g K) (hK : K = 2 ∨ K = 4) (hs : sgB (toks s0) 41 (g 2 7).toNat = true) (q : g' = stp g) : RPp c s0 1 g' := by
  obtain ⟨tw, e, lt, op, h⟩ := h
  have k := sg_k e hs
  obtain ⟨w, d, m, f⟩ := stp_ok tw (by omega) (by omega) q
  refine ⟨fun _ => by omega, fun kd ph bg st hl hf => Or.inl ⟨rfl, amTo_trans (h kd ph bg st hl hf) ?_, w⟩⟩
  rw [m]
  exact amTo_1 (am_close hK op hs)
theorem SMD_close0 {g g' : zF} {K v : Int} (h : SMD c s0 g K) (hK : K = 2 ∨ K = 4) (hs : sgB (toks s0) 41 (g 2 7).toNat = false) (hv : v = 0) (q : (g' 2 0, g' 2 1) = flt (toks s0) (g 2 7).toNat) : RPp c s0 v g' := by
  obtain ⟨tw, e, lt, op, h⟩ := h
  refine ⟨fun z => by omega, fun kd ph bg st hl hf => Or.inr ⟨hv, amTo_fin (h kd ph bg st hl hf) ?_⟩⟩
  rw [q]
  exact amFin_1 (am_close0 hK op hs)
end PRT
