/-! the reference's frames hold the abstract machine's stack -/
def FRS : List zFm → zF → Prop
  | [], _ => True
  | (k, p, b) :: st, s => s 409 st.length = k ∧ s 410 st.length = p ∧ s 411 st.length = (if b = true then 1 else 0) ∧ FRS st s
theorem FRS_eq {g s : zF} (h9 : g 409 = s 409) (h0 : g 410 = s 410) (h1 : g 411 = s 411) : ∀ {st : List zFm}, FRS st s → FRS st g := by
  intro st
  induction st with
  | nil => intro _; trivial
  | cons f st ih =>
    obtain ⟨k, p, b⟩ := f
    intro ⟨a1, a2, a3, a4⟩
    exact ⟨by rw [h9]; exact a1, by rw [h0]; exact a2, by rw [h1]; exact a3, ih a4⟩
theorem FRS_up {s : zF} {a m : Nat} {v : Int} : ∀ {st : List zFm}, st.length ≤ m → FRS st s → FRS st (zup s a m v) := by
  intro st
  induction st with
  | nil => intro _ _; trivial
  | cons f st ih =>
    obtain ⟨k, p, b⟩ := f
    intro hm ⟨a1, a2, a3, a4⟩
    have hl : ((k, p, b) :: st).length = st.length + 1 := rfl
    rw [hl] at hm
    exact ⟨by rw [zup_ne (Or.inr (by omega))]; exact a1, by rw [zup_ne (Or.inr (by omega))]; exact a2, by rw [zup_ne (Or.inr (by omega))]; exact a3, ih (by omega) a4⟩
theorem FRS_o {s : zF} {a m : Nat} {v : Int} {st : List zFm} (ha : a < 409 ∨ 411 < a) (h : FRS st s) : FRS st (zup s a m v) := FRS_eq (zup_na (by omega)) (zup_na (by omega)) (zup_na (by omega)) h
def AMR (t : zK) (P : Nat → Nat) (e i : Nat) (st : List zFm) (s : zF) : Prop := i ≤ e ∧ PRT t P i s ∧ s 386 41 = (st.length : Int) ∧ s 386 42 = (st.length : Int) - 1 ∧ FRS st s ∧ st ≠ []
section AMRS
variable {T : Nat → Int} {L e i : Nat} {t : zK} {P : Nat → Nat} {r : zP} {s g g0 : zF} {st : List zFm} {kd ph v : Int} {bg : Bool}
theorem amr_mk (tk : Toks T L t.1 t.2.1 t.2.2 P e) (A : ATT t P i g0) (hi : i ≤ e) (k0 : t.1 i ≠ 0) (k1 : t.1 i ≠ 1) (ha : AH T L (g0 386 5).toNat g) (h41 : g 386 41 = (st.length : Int)) (h42 : g 386 42 = (st.length : Int) - 1) (hF : FRS st g) (hn : st ≠ []) : AMR t P e (i + 1) st g := by
  have R : RSq t P e (.inl (i + 1)) g := rs_next (F := fun k => .inl (k + 1)) tk A hi k0 k1 rfl ha
  exact ⟨R.1, R.2, h41, h42, hF, hn⟩
/-- what operand() did -/
def OPD (t : zK) (P : Nat → Nat) (e : Nat) (c : zCf) (v : Int) (g : zF) : Prop := (∃ i' st' b', amStep t c = .inl (i', st', b') ∧ AMR t P e i' st' g ∧ v = (if b' = true then 1 else 0)) ∨ ∃ f : Int × Int, amStep t c = .inr (.inr f) ∧ g 386 8 = f.1 ∧ g 386 9 = f.2 ∧ 0 < f.1
/-- what goesOn() did -/
def OPG (t : zK) (P : Nat → Nat) (e : Nat) (c : zCf) (v : Int) (g : zF) : Prop := v = 1 ∧ (∃ i' st' b', amStep t c = .inl (i', st', b') ∧ AMR t P e i' st' g ∧ g 386 45 = (if b' = true then 1 else 0)) ∨ v = 0 ∧ ((∃ f : Int × Int, amStep t c = .inr (.inr f) ∧ g 386 8 = f.1 ∧ g 386 9 = f.2 ∧ 0 < f.1) ∨ ∃ i, amStep t c = .inr (.inl i) ∧ i ≤ e ∧ ATT t P i g)
/-- what opens() did, at the token r -/
def OPN3 (t : zK) (P : Nat → Nat) (e : Nat) (r : zP) (k : Int) (fs : List zFm) (g : zF) : Prop := (∃ i, r = .inl i ∧ fs.length = 9 ∧ g 386 8 = 5 ∧ g 386 9 = t.2.2 i) ∨ (∃ f, r = .inr f ∧ g 386 8 = f.1 ∧ g 386 9 = f.2 ∧ 0 < f.1) ∨ ∃ i, r = .inl i ∧ fs.length ≠ 9 ∧ AMR t P e (i + 1) ((k, 0, true) :: fs) g
theorem b01 {b : Bool} {x : Int} (h : x = (if b = true then 1 else 0)) : (b = true → x = 1) ∧ (b = false → x = 0) ∧ (x = 0 → b = false) ∧ (¬ x = 0 → b = true) := by
  cases b with
  | true =>
    rw [if_pos rfl] at h
    exact ⟨fun _ => h, fun z => (by cases z), fun z => (by omega), fun _ => rfl⟩
  | false =>
    rw [if_neg (by decide)] at h
    exact ⟨fun z => (by cases z), fun _ => h, fun _ => rfl, fun z => absurd h z⟩
theorem isT_1 {k : Int} (h : k = 1 ∨ k = 5) : isT k = true := by
  rcases h with z | z <;> subst z <;> decide
theorem isT_0 {k : Int} (h1 : k ≠ 1) (h5 : k ≠ 5) : isT k = false := by
  unfold isT
  rw [decide_eq_false h1, decide_eq_false h5]
  rfl
/-- the machine at an operand, exact forms for the reference's tests -/
theorem am_bad2 {b : Bool} (h : t.1 i = 1) (P2 : s 386 8 = 1 ∧ s 386 9 = t.2.1 i) (hi : i ≤ e) : ∃ r', RSq t P e r' s ∧ amFin t (i, st, b) r' := by
  rcases am_bad (st := st) (b := b) h with z | z
  · refine ⟨.inr (flt t i), ⟨?_, ?_, ?_⟩, amFin_1 z⟩
    · rw [flt_bad h]
      exact P2.1
    · rw [flt_bad h]
      exact P2.2
    · rw [flt_bad h]
      show (0 : Int) < 1
      decide
  · exact ⟨.inl i, ⟨hi, Or.inr ⟨h, P2.1, P2.2⟩⟩, amFin_1 z⟩
end AMRS
section AMGS
variable {t : zK} {i : Nat} {kd ph : Int} {bg : Bool} {st : List zFm}
theorem amG_eq (n1 : ¬(ph < 2 ∧ opB t i = true)) (n2 : ¬(isT kd = true ∧ ph = 0 ∧ cmB t i = true)) (n3 : ¬(isT kd = true ∧ aoB t i = true)) (n4 : ¬(isT kd = true ∧ ph = 0)) : amStep t (i, (kd, ph, bg) :: st, true) = (if kd < 2 then .inr (.inl i) else if kd = 3 then (if sgB t 44 i = true then .inl (i + 1, (4, ph, bg) :: st, false) else .inr (.inr (flt t i))) else if sgB t (if kd = 5 then 93 else 41) i = true then amC t i kd st else .inr (.inr (flt t i))) := by
  show amG t i kd ph bg st = _
  unfold amG
  rw [if_neg n1, if_neg n2, if_neg n3, if_neg n4]
theorem am_fin2 (n1 : ¬(ph < 2 ∧ opB t i = true)) (n2 : ¬(isT kd = true ∧ ph = 0 ∧ cmB t i = true)) (n3 : ¬(isT kd = true ∧ aoB t i = true)) (n4 : ¬(isT kd = true ∧ ph = 0)) (hk : kd < 2) : amStep t (i, (kd, ph, bg) :: st, true) = .inr (.inl i) := by
  rw [amG_eq n1 n2 n3 n4, if_pos hk]
theorem am_c1 (n1 : ¬(ph < 2 ∧ opB t i = true)) (n2 : ¬(isT kd = true ∧ ph = 0 ∧ cmB t i = true)) (n3 : ¬(isT kd = true ∧ aoB t i = true)) (n4 : ¬(isT kd = true ∧ ph = 0)) (hk : kd = 3) (hs : sgB t 44 i = true) : amStep t (i, (kd, ph, bg) :: st, true) = .inl (i + 1, (4, ph, bg) :: st, false) := by
  rw [amG_eq n1 n2 n3 n4, if_neg (by omega), if_pos hk, if_pos hs]
theorem am_c0 (n1 : ¬(ph < 2 ∧ opB t i = true)) (n2 : ¬(isT kd = true ∧ ph = 0 ∧ cmB t i = true)) (n3 : ¬(isT kd = true ∧ aoB t i = true)) (n4 : ¬(isT kd = true ∧ ph = 0)) (hk : kd = 3) (hs : sgB t 44 i = false) : amStep t (i, (kd, ph, bg) :: st, true) = .inr (.inr (flt t i)) := by
  rw [amG_eq n1 n2 n3 n4, if_neg (by omega), if_pos hk, if_neg (by rw [hs]; decide)]
theorem am_k1 {k p : Int} {b : Bool} (n1 : ¬(ph < 2 ∧ opB t i = true)) (n2 : ¬(isT kd = true ∧ ph = 0 ∧ cmB t i = true)) (n3 : ¬(isT kd = true ∧ aoB t i = true)) (n4 : ¬(isT kd = true ∧ ph = 0)) (hk : ¬ kd < 2) (hk3 : kd ≠ 3) {c : Int} (hc : (if kd = 5 then 93 else 41) = c) (hs : sgB t c i = true) : amStep t (i, (kd, ph, bg) :: (k, p, b) :: st, true) = .inl (i + 1, (k, if kd = 5 then 2 else p, b) :: st, true) := by
  rw [amG_eq n1 n2 n3 n4, if_neg hk, if_neg hk3, hc, if_pos hs]
  rfl
theorem am_k0 (n1 : ¬(ph < 2 ∧ opB t i = true)) (n2 : ¬(isT kd = true ∧ ph = 0 ∧ cmB t i = true)) (n3 : ¬(isT kd = true ∧ aoB t i = true)) (n4 : ¬(isT kd = true ∧ ph = 0)) (hk : ¬ kd < 2) (hk3 : kd ≠ 3) {c : Int} (hc : (if kd = 5 then 93 else 41) = c) (hs : sgB t c i = false) : amStep t (i, (kd, ph, bg) :: st, true) = .inr (.inr (flt t i)) := by
  rw [amG_eq n1 n2 n3 n4, if_neg hk, if_neg hk3, hc, if_neg (by rw [hs]; decide)]
theorem am_ph0 (hk : isT kd = true) (n1 : ¬(ph < 2 ∧ opB t i = true)) (n2 : ¬(isT kd = true ∧ ph = 0 ∧ cmB t i = true)) (hp : ph = 0) : amStep t (i, (kd, ph, bg) :: st, true) = .inr (.inr (flt t i)) := by
  subst hp
  refine am_cmp0 hk ?_ ?_
  · cases z : opB t i with
    | false => rfl
    | true => exact absurd ⟨by decide, z⟩ n1
  · cases z : cmB t i with
    | false => rfl
    | true => exact absurd ⟨hk, rfl, z⟩ n2
theorem opB_of {c : Int} (hc : c = 43 ∨ c = 45 ∨ c = 42 ∨ c = 47 ∨ c = 37) (h : sgB t c i = true) : opB t i = true := by
  unfold opB
  rcases hc with z | z | z | z | z <;> subst z <;> simp [h]
theorem opB_no (h1 : sgB t 43 i = false) (h2 : sgB t 45 i = false) (h3 : sgB t 42 i = false) (h4 : sgB t 47 i = false) (h5 : sgB t 37 i = false) : opB t i = false := by
  unfold opB
  rw [h1, h2, h3, h4, h5]
  rfl
theorem cmB_of {c : Int} (hc : c = 60 ∨ c = 62 ∨ c = 61) (h : sgB t c i = true) : cmB t i = true := by
  unfold cmB
  rcases hc with z | z | z <;> subst z <;> simp [h]
theorem cmB_no (h1 : sgB t 60 i = false) (h2 : sgB t 62 i = false) (h3 : sgB t 61 i = false) : cmB t i = false := by
  unfold cmB
  rw [h1, h2, h3]
  rfl
theorem aoB_of (h : tokI t i = 22 ∨ tokI t i = 21) : aoB t i = true := by
  unfold aoB
  rcases h with z | z <;> rw [z] <;> rfl
theorem aoB_no (h1 : tokI t i ≠ 22) (h2 : tokI t i ≠ 21) : aoB t i = false := by
  unfold aoB
  rw [decide_eq_false h1, decide_eq_false h2]
  rfl
end AMGS
theorem prt_att {t : zK} {P : Nat → Nat} {i : Nat} {s : zF} (h : PRT t P i s) (h0 : s 386 8 = 0) : ATT t P i s := by
  rcases h with h | ⟨-, h, -⟩
  · exact h
  · omega
theorem prt_bad {t : zK} {P : Nat → Nat} {i : Nat} {s : zF} (h : PRT t P i s) (h0 : s 386 8 ≠ 0) : t.1 i = 1 ∧ s 386 8 = 1 ∧ s 386 9 = t.2.1 i := by
  rcases h with h | h
  · exact absurd h.2.1 h0
  · exact h
/-- between two turns of reads() -/
def RDL (t : zK) (P : Nat → Nat) (e : Nat) (c0 : zCf) (v : Int) (g : zF) : Prop := v = 1 ∧ (∃ i st b, amTo t c0 (i, st, b) ∧ AMR t P e i st g ∧ ATT t P i g ∧ g 386 45 = (if b = true then 1 else 0)) ∨ v = 0 ∧ ∃ r', RSq t P e r' g ∧ amFin t c0 r'
theorem RDL_step {t : zK} {P : Nat → Nat} {e : Nat} {c0 c : zCf} {v : Int} {g : zF} {i : Nat} {st : List zFm} {b : Bool} (h : amTo t c0 c) (hs : amStep t c = .inl (i, st, b)) (M : AMR t P e i st g) (h45 : g 386 45 = (if b = true then 1 else 0)) (hv : v = 1 ∧ g 386 8 = 0 ∨ v = 0 ∧ g 386 8 ≠ 0) : RDL t P e c0 v g := by
  have h2 := amTo_trans h (amTo_1 hs)
  rcases hv with ⟨h0, h1⟩ | ⟨h0, h1⟩
  · exact Or.inl ⟨h0, i, st, b, h2, M, prt_att M.2.1 h1, h45⟩
  · obtain ⟨a, a2⟩ := prt_bad M.2.1 h1
    obtain ⟨r', q1, q2⟩ := am_bad2 (st := st) (b := b) a a2 M.1
    exact Or.inr ⟨h0, r', q1, amTo_fin h2 q2⟩
theorem RDL_flt {t : zK} {P : Nat → Nat} {e : Nat} {c0 c : zCf} {g : zF} {f : Int × Int} (h : amTo t c0 c) (hs : amStep t c = .inr (.inr f)) (h8 : g 386 8 = f.1) (h9 : g 386 9 = f.2) (h0 : 0 < f.1) : RDL t P e c0 0 g := Or.inr ⟨rfl, .inr f, ⟨h8, h9, h0⟩, amTo_fin h (amFin_1 hs)⟩
theorem RDL_end {t : zK} {P : Nat → Nat} {e : Nat} {c0 c : zCf} {g : zF} {i : Nat} (h : amTo t c0 c) (hs : amStep t c = .inr (.inl i)) (hi : i ≤ e) (A : ATT t P i g) : RDL t P e c0 0 g := Or.inr ⟨rfl, .inl i, ⟨hi, Or.inl A⟩, amTo_fin h (amFin_1 hs)⟩
