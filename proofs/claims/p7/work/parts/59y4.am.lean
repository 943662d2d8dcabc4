/-! THE ABSTRACT MACHINE of SUMS and TESTS: token, stack of (frame, phase, begins), is an operand behind us -/
abbrev zFm : Type := Int × Int × Bool
abbrev zCf : Type := Nat × List zFm × Bool
def isT (k : Int) : Bool := decide (k = 1) || decide (k = 5)
def sgB (t : zK) (c : Int) (i : Nat) : Bool := decide (t.1 i = 5) && decide (t.2.1 i = c)
def opB (t : zK) (i : Nat) : Bool := sgB t 43 i || sgB t 45 i || sgB t 42 i || sgB t 47 i || sgB t 37 i
def cmB (t : zK) (i : Nat) : Bool := sgB t 60 i || sgB t 62 i || sgB t 61 i
def aoB (t : zK) (i : Nat) : Bool := decide (tokI t i = 22) || decide (tokI t i = 21)
/-- may the operand be NOT, [, ALL: it is none of these -/
def frst (t : zK) (i : Nat) (kd : Int) (bg : Bool) : Prop := isT kd = true → bg = true → tokI t i ≠ 23 ∧ tokI t i ≠ 24 ∧ sgB t 91 i = false
def amO (t : zK) (i : Nat) (kd ph : Int) (bg : Bool) (st : List zFm) : zCf ⊕ zP :=
  if (isT kd && bg && decide (tokI t i = 23)) = true then .inl (i + 1, (kd, ph, bg) :: st, false)
  else if (isT kd && bg && sgB t 91 i) = true then (if st.length = 8 then .inr (.inr (5, t.2.2 i)) else .inl (i + 1, (5, 0, true) :: (kd, ph, false) :: st, false))
  else if (isT kd && bg && decide (tokI t i = 24)) = true then .inl (i + 1, (kd, 2, false) :: st, true)
  else if sgB t 40 i = true then (if st.length = 8 then .inr (.inr (5, t.2.2 i)) else .inl (i + 1, (2, 0, true) :: (kd, ph, false) :: st, false))
  else if tokI t i = 25 ∨ tokI t i = 26 then (if sgB t 40 (i + 1) = true then (if st.length = 8 then .inr (.inr (5, t.2.2 (i + 1))) else .inl (i + 2, (3, 0, true) :: (kd, ph, false) :: st, false)) else .inr (.inr (flt t (i + 1))))
  else if t.1 i = 4 ∨ 0 ≤ tokI t i ∧ tokI t i < 7 then .inl (i + 1, (kd, ph, false) :: st, true)
  else .inr (.inr (flt t i))
def amC (t : zK) (i : Nat) (kd : Int) (st : List zFm) : zCf ⊕ zP := match st with
  | (k, p, b) :: st' => .inl (i + 1, (k, if kd = 5 then 2 else p, b) :: st', true)
  | [] => .inr (.inr (flt t i))
def amG (t : zK) (i : Nat) (kd ph : Int) (bg : Bool) (st : List zFm) : zCf ⊕ zP :=
  if ph < 2 ∧ opB t i = true then .inl (i + 1, (kd, ph, bg) :: st, false)
  else if isT kd = true ∧ ph = 0 ∧ cmB t i = true then .inl (i + 1, (kd, 1, bg) :: st, false)
  else if isT kd = true ∧ aoB t i = true then (if ph = 0 then .inr (.inr (flt t i)) else .inl (i + 1, (kd, 0, true) :: st, false))
  else if isT kd = true ∧ ph = 0 then .inr (.inr (flt t i))
  else if kd < 2 then .inr (.inl i)
  else if kd = 3 then (if sgB t 44 i = true then .inl (i + 1, (4, ph, bg) :: st, false) else .inr (.inr (flt t i)))
  else if sgB t (if kd = 5 then 93 else 41) i = true then amC t i kd st
  else .inr (.inr (flt t i))
def amStep (t : zK) (c : zCf) : zCf ⊕ zP := match c with
  | (i, (kd, ph, bg) :: st, false) => amO t i kd ph bg st
  | (i, (kd, ph, bg) :: st, true) => amG t i kd ph bg st
  | (i, [], _) => .inr (.inr (flt t i))
def amN (t : zK) : Nat → zCf → zCf ⊕ zP
  | 0, c => .inl c
  | n + 1, c => match amStep t c with
    | .inl c' => amN t n c'
    | .inr r => .inr r
def amTo (t : zK) (c c' : zCf) : Prop := ∃ n, amN t n c = .inl c'
def amFin (t : zK) (c : zCf) (r : zP) : Prop := ∃ n, amN t n c = .inr r
theorem amN_add {t : zK} : ∀ (n m : Nat) (c c' : zCf), amN t n c = .inl c' → amN t (n + m) c = amN t m c' := by
  intro n
  induction n with
  | zero =>
    intro m c c' h
    have e : c = c' := Sum.inl.inj h
    rw [Nat.zero_add, e]
  | succ n ih =>
    intro m c c' h
    rw [show n + 1 + m = (n + m) + 1 by omega]
    have e1 : amN t (n + m + 1) c = (match amStep t c with | .inl c1 => amN t (n + m) c1 | .inr r => .inr r) := rfl
    have e2 : amN t (n + 1) c = (match amStep t c with | .inl c1 => amN t n c1 | .inr r => .inr r) := rfl
    rw [e1]
    rw [e2] at h
    cases hs : amStep t c with
    | inl d =>
      rw [hs] at h
      exact ih m d c' h
    | inr r =>
      rw [hs] at h
      cases h
theorem amTo_refl {t : zK} {c : zCf} : amTo t c c := ⟨0, rfl⟩
theorem amTo_trans {t : zK} {a b c : zCf} (h : amTo t a b) (h' : amTo t b c) : amTo t a c := by
  obtain ⟨n, hn⟩ := h
  obtain ⟨m, hm⟩ := h'
  exact ⟨n + m, (amN_add n m a b hn).trans hm⟩
theorem amTo_fin {t : zK} {a b : zCf} {r : zP} (h : amTo t a b) (h' : amFin t b r) : amFin t a r := by
  obtain ⟨n, hn⟩ := h
  obtain ⟨m, hm⟩ := h'
  exact ⟨n + m, (amN_add n m a b hn).trans hm⟩
theorem amTo_1 {t : zK} {a b : zCf} (h : amStep t a = .inl b) : amTo t a b := ⟨1, by
  show (match amStep t a with
    | .inl c' => amN t 0 c'
    | .inr r => .inr r) = .inl b
  rw [h]
  rfl⟩
theorem amFin_1 {t : zK} {a : zCf} {r : zP} (h : amStep t a = .inr r) : amFin t a r := ⟨1, by
  show (match amStep t a with
    | .inl c' => amN t 0 c'
    | .inr r => .inr r) = .inr r
  rw [h]⟩
theorem amN_stop {t : zK} : ∀ (n m : Nat) (c : zCf) (r : zP), amN t n c = .inr r → amN t (n + m) c = .inr r := by
  intro n
  induction n with
  | zero => intro m c r h; cases h
  | succ n ih =>
    intro m c r h
    rw [show n + 1 + m = (n + m) + 1 by omega]
    unfold amN at h ⊢
    split at h
    · rename_i d hd
      exact ih m d r h
    · exact h
/-- it ends in one way only -/
theorem amFin_eq {t : zK} {c : zCf} {r r' : zP} (h : amFin t c r) (h' : amFin t c r') : r = r' := by
  obtain ⟨n, hn⟩ := h
  obtain ⟨m, hm⟩ := h'
  have e1 := amN_stop n m c r hn
  have e2 := amN_stop m n c r' hm
  rw [Nat.add_comm m n, e1] at e2
  exact Sum.inr.inj e2
theorem amFin_step {t : zK} {c c' : zCf} {r : zP} (h : amStep t c = .inl c') (f : amFin t c r) : amFin t c' r := by
  obtain ⟨n, hn⟩ := f
  cases n with
  | zero => cases hn
  | succ n =>
    refine ⟨n, ?_⟩
    have e : amN t (n + 1) c = amN t n c' := by
      show (match amStep t c with
        | .inl c' => amN t n c'
        | .inr r => .inr r) = _
      rw [h]
    exact e.symm.trans hn
/-- what a method of the class did, as a run of the machine -/
def PA (t : zK) (c0 : zCf) (st : List zFm) (v : Int) (g : zF) : Prop := v = 1 ∧ amTo t c0 ((g 2 7).toNat, st, true) ∧ TW g ∨ v = 0 ∧ amFin t c0 (.inr (g 2 0, g 2 1))
theorem frst_f {kd : Int} {bg x : Bool} (h : isT kd = true → bg = true → x = false) : ¬ (isT kd && bg && x) = true := by
  intro z
  rw [Bool.and_eq_true, Bool.and_eq_true] at z
  rw [h z.1.1 z.1.2] at z
  exact absurd z.2 (by decide)
theorem sgB_iff {t : zK} {c : Int} {i : Nat} : sgB t c i = true ↔ isSg t c i := by
  unfold sgB isSg
  rw [Bool.and_eq_true, decide_eq_true_eq, decide_eq_true_eq]
theorem sgB_ne {t : zK} {c : Int} {i : Nat} (h : t.1 i ≠ 5) : sgB t c i = false := by
  unfold sgB
  rw [decide_eq_false h]
  rfl
theorem tokI_2 {t : zK} {i : Nat} (h : tokI t i ≠ -1) : t.1 i = 2 := by
  by_cases z : t.1 i = 2
  · exact z
  · exact absurd (if_neg z) h
theorem tokI_n {t : zK} {i : Nat} (h : t.1 i ≠ 2) : tokI t i = -1 := if_neg h
section AMS
variable {t : zK} {i : Nat} {kd ph : Int} {bg : Bool} {st : List zFm}
theorem am_f3 (h : frst t i kd bg) : ¬ (isT kd && bg && decide (tokI t i = 23)) = true ∧ ¬ (isT kd && bg && sgB t 91 i) = true ∧ ¬ (isT kd && bg && decide (tokI t i = 24)) = true := ⟨frst_f fun a b => decide_eq_false (h a b).1, frst_f fun a b => (h a b).2.2, frst_f fun a b => decide_eq_false (h a b).2.1⟩
theorem am_val (h : frst t i kd bg) (hv : t.1 i = 4 ∨ 0 ≤ tokI t i ∧ tokI t i < 7) : amStep t (i, (kd, ph, bg) :: st, false) = .inl (i + 1, (kd, ph, false) :: st, true) := by
  obtain ⟨f1, f2, f3⟩ := am_f3 h
  have n5 : t.1 i ≠ 5 := by
    rcases hv with z | z
    · omega
    · have := tokI_2 (t := t) (i := i) (by omega)
      omega
  have n25 : ¬(tokI t i = 25 ∨ tokI t i = 26) := by
    rcases hv with z | z
    · have := tokI_n (t := t) (i := i) (by omega)
      omega
    · omega
  show amO t i kd ph bg st = _
  unfold amO
  rw [if_neg f1, if_neg f2, if_neg f3, if_neg (by rw [sgB_ne n5]; decide), if_neg n25, if_pos hv]
theorem am_par (h : frst t i kd bg) (hs : sgB t 40 i = true) (hl : st.length ≠ 8) : amStep t (i, (kd, ph, bg) :: st, false) = .inl (i + 1, (2, 0, true) :: (kd, ph, false) :: st, false) := by
  obtain ⟨f1, f2, f3⟩ := am_f3 h
  show amO t i kd ph bg st = _
  unfold amO
  rw [if_neg f1, if_neg f2, if_neg f3, if_pos hs, if_neg hl]
theorem am_par8 (h : frst t i kd bg) (hs : sgB t 40 i = true) (hl : st.length = 8) : amStep t (i, (kd, ph, bg) :: st, false) = .inr (.inr (5, t.2.2 i)) := by
  obtain ⟨f1, f2, f3⟩ := am_f3 h
  show amO t i kd ph bg st = _
  unfold amO
  rw [if_neg f1, if_neg f2, if_neg f3, if_pos hs, if_pos hl]
theorem am_mm (h : frst t i kd bg) (hw : tokI t i = 25 ∨ tokI t i = 26) (hs : sgB t 40 (i + 1) = true) (hl : st.length ≠ 8) : amStep t (i, (kd, ph, bg) :: st, false) = .inl (i + 2, (3, 0, true) :: (kd, ph, false) :: st, false) := by
  obtain ⟨f1, f2, f3⟩ := am_f3 h
  have n5 : t.1 i ≠ 5 := by
    have := tokI_2 (t := t) (i := i) (by omega)
    omega
  show amO t i kd ph bg st = _
  unfold amO
  rw [if_neg f1, if_neg f2, if_neg f3, if_neg (by rw [sgB_ne n5]; decide), if_pos hw, if_pos hs, if_neg hl]
theorem am_mm8 (h : frst t i kd bg) (hw : tokI t i = 25 ∨ tokI t i = 26) (hs : sgB t 40 (i + 1) = true) (hl : st.length = 8) : amStep t (i, (kd, ph, bg) :: st, false) = .inr (.inr (5, t.2.2 (i + 1))) := by
  obtain ⟨f1, f2, f3⟩ := am_f3 h
  have n5 : t.1 i ≠ 5 := by
    have := tokI_2 (t := t) (i := i) (by omega)
    omega
  show amO t i kd ph bg st = _
  unfold amO
  rw [if_neg f1, if_neg f2, if_neg f3, if_neg (by rw [sgB_ne n5]; decide), if_pos hw, if_pos hs, if_pos hl]
theorem am_mm0 (h : frst t i kd bg) (hw : tokI t i = 25 ∨ tokI t i = 26) (hs : sgB t 40 (i + 1) = false) : amStep t (i, (kd, ph, bg) :: st, false) = .inr (.inr (flt t (i + 1))) := by
  obtain ⟨f1, f2, f3⟩ := am_f3 h
  have n5 : t.1 i ≠ 5 := by
    have := tokI_2 (t := t) (i := i) (by omega)
    omega
  show amO t i kd ph bg st = _
  unfold amO
  rw [if_neg f1, if_neg f2, if_neg f3, if_neg (by rw [sgB_ne n5]; decide), if_pos hw, if_neg (by rw [hs]; decide)]
theorem am_flt (h : frst t i kd bg) (h4 : t.1 i ≠ 4) (hw : tokI t i = -1 ∨ 7 ≤ tokI t i) (h25 : tokI t i ≠ 25) (h26 : tokI t i ≠ 26) (hs : sgB t 40 i = false) : amStep t (i, (kd, ph, bg) :: st, false) = .inr (.inr (flt t i)) := by
  obtain ⟨f1, f2, f3⟩ := am_f3 h
  show amO t i kd ph bg st = _
  unfold amO
  rw [if_neg f1, if_neg f2, if_neg f3, if_neg (by rw [hs]; decide), if_neg (by omega), if_neg (by omega)]
theorem am_op (hp : ph < 2) (ho : opB t i = true) : amStep t (i, (kd, ph, bg) :: st, true) = .inl (i + 1, (kd, ph, bg) :: st, false) := if_pos ⟨hp, ho⟩
theorem am_close {k p : Int} {b : Bool} (hk : kd = 2 ∨ kd = 4) (hn : opB t i = false) (hs : sgB t 41 i = true) : amStep t (i, (kd, ph, bg) :: (k, p, b) :: st, true) = .inl (i + 1, (k, p, b) :: st, true) := by
  have e : isT kd = false := by
    rcases hk with z | z <;> subst z <;> decide
  show amG t i kd ph bg ((k, p, b) :: st) = _
  unfold amG
  rw [if_neg (by rw [hn]; intro z; exact absurd z.2 (by decide)), if_neg (by rw [e]; intro z; exact absurd z.1 (by decide)), if_neg (by rw [e]; intro z; exact absurd z.1 (by decide)), if_neg (by rw [e]; intro z; exact absurd z.1 (by decide)), if_neg (by omega), if_neg (by omega), if_neg (show ¬ kd = 5 by omega), if_pos hs]
  show (Sum.inl (i + 1, (k, if kd = 5 then 2 else p, b) :: st, true) : zCf ⊕ zP) = _
  rw [if_neg (by omega)]
theorem am_close0 {k p : Int} {b : Bool} (hk : kd = 2 ∨ kd = 4) (hn : opB t i = false) (hs : sgB t 41 i = false) : amStep t (i, (kd, ph, bg) :: (k, p, b) :: st, true) = .inr (.inr (flt t i)) := by
  have e : isT kd = false := by
    rcases hk with z | z <;> subst z <;> decide
  show amG t i kd ph bg ((k, p, b) :: st) = _
  unfold amG
  rw [if_neg (by rw [hn]; intro z; exact absurd z.2 (by decide)), if_neg (by rw [e]; intro z; exact absurd z.1 (by decide)), if_neg (by rw [e]; intro z; exact absurd z.1 (by decide)), if_neg (by rw [e]; intro z; exact absurd z.1 (by decide)), if_neg (by omega), if_neg (by omega), if_neg (show ¬ kd = 5 by omega), if_neg (by rw [hs]; decide)]
theorem am_comma (hn : opB t i = false) (hs : sgB t 44 i = true) : amStep t (i, (3, ph, bg) :: st, true) = .inl (i + 1, (4, ph, bg) :: st, false) := by
  show amG t i 3 ph bg st = _
  unfold amG
  rw [if_neg (by rw [hn]; intro z; exact absurd z.2 (by decide)), if_neg (fun z => absurd z.1 (by decide)), if_neg (fun z => absurd z.1 (by decide)), if_neg (fun z => absurd z.1 (by decide)), if_neg (by decide), if_pos rfl, if_pos hs]
theorem am_comma0 (hn : opB t i = false) (hs : sgB t 44 i = false) : amStep t (i, (3, ph, bg) :: st, true) = .inr (.inr (flt t i)) := by
  show amG t i 3 ph bg st = _
  unfold amG
  rw [if_neg (by rw [hn]; intro z; exact absurd z.2 (by decide)), if_neg (fun z => absurd z.1 (by decide)), if_neg (fun z => absurd z.1 (by decide)), if_neg (fun z => absurd z.1 (by decide)), if_neg (by decide), if_pos rfl, if_neg (by rw [hs]; decide)]
theorem am_not (hk : isT kd = true) (hw : tokI t i = 23) : amStep t (i, (kd, ph, true) :: st, false) = .inl (i + 1, (kd, ph, true) :: st, false) := if_pos (by rw [hk, decide_eq_true hw]; decide)
theorem am_sq (hk : isT kd = true) (hs : sgB t 91 i = true) (hl : st.length ≠ 8) : amStep t (i, (kd, ph, true) :: st, false) = .inl (i + 1, (5, 0, true) :: (kd, ph, false) :: st, false) := by
  have n5 : t.1 i = 5 := (sgB_iff.mp hs).1
  have hw : tokI t i ≠ 23 := by
    have := tokI_n (t := t) (i := i) (by omega)
    omega
  show amO t i kd ph true st = _
  unfold amO
  rw [if_neg (by rw [decide_eq_false hw, hk]; decide), if_pos (by rw [hk, hs]; decide), if_neg hl]
theorem am_sq8 (hk : isT kd = true) (hs : sgB t 91 i = true) (hl : st.length = 8) : amStep t (i, (kd, ph, true) :: st, false) = .inr (.inr (5, t.2.2 i)) := by
  have n5 : t.1 i = 5 := (sgB_iff.mp hs).1
  have hw : tokI t i ≠ 23 := by
    have := tokI_n (t := t) (i := i) (by omega)
    omega
  show amO t i kd ph true st = _
  unfold amO
  rw [if_neg (by rw [decide_eq_false hw, hk]; decide), if_pos (by rw [hk, hs]; decide), if_pos hl]
theorem am_all (hk : isT kd = true) (hw : tokI t i = 24) : amStep t (i, (kd, ph, true) :: st, false) = .inl (i + 1, (kd, 2, false) :: st, true) := by
  have n5 : t.1 i ≠ 5 := by
    have := tokI_2 (t := t) (i := i) (by omega)
    omega
  show amO t i kd ph true st = _
  unfold amO
  rw [if_neg (by rw [decide_eq_false (by omega), hk]; decide), if_neg (by rw [sgB_ne n5, hk]; decide), if_pos (by rw [hk, decide_eq_true hw]; decide)]
theorem am_cmp (hk : isT kd = true) (hn : opB t i = false) (hc : cmB t i = true) : amStep t (i, (kd, 0, bg) :: st, true) = .inl (i + 1, (kd, 1, bg) :: st, false) := by
  show amG t i kd 0 bg st = _
  unfold amG
  rw [if_neg (by rw [hn]; intro z; exact absurd z.2 (by decide)), if_pos ⟨hk, rfl, hc⟩]
/-- a comparison is wanting: whatever stands there instead -/
theorem am_cmp0 (hk : isT kd = true) (hn : opB t i = false) (hc : cmB t i = false) : amStep t (i, (kd, 0, bg) :: st, true) = .inr (.inr (flt t i)) := by
  show amG t i kd 0 bg st = _
  unfold amG
  rw [if_neg (by rw [hn]; intro z; exact absurd z.2 (by decide)), if_neg (by rw [hc]; intro z; exact absurd z.2.2 (by decide))]
  by_cases z : isT kd = true ∧ aoB t i = true
  · rw [if_pos z, if_pos rfl]
  · rw [if_neg z, if_pos ⟨hk, rfl⟩]
theorem am_ao (hk : isT kd = true) (hp : ph = 1 ∨ ph = 2) (hn : ph = 1 → opB t i = false) (ha : aoB t i = true) : amStep t (i, (kd, ph, bg) :: st, true) = .inl (i + 1, (kd, 0, true) :: st, false) := by
  show amG t i kd ph bg st = _
  unfold amG
  rw [if_neg (by
    intro z
    have := hn (by omega)
    rw [this] at z
    exact absurd z.2 (by decide)), if_neg (fun z => by omega), if_pos ⟨hk, ha⟩, if_neg (by omega)]
/-- the whole TEST, the whole SUM is read -/
theorem am_done1 (hp : ph = 1 ∨ ph = 2) (hn : ph = 1 → opB t i = false) (ha : aoB t i = false) : amStep t (i, (1, ph, bg) :: st, true) = .inr (.inl i) := by
  show amG t i 1 ph bg st = _
  unfold amG
  rw [if_neg (by
    intro z
    have := hn (by omega)
    rw [this] at z
    exact absurd z.2 (by decide)), if_neg (fun z => by omega), if_neg (by rw [ha]; intro z; exact absurd z.2 (by decide)), if_neg (fun z => by omega), if_pos (by decide)]
theorem am_done0 (hn : opB t i = false) : amStep t (i, (0, 0, bg) :: st, true) = .inr (.inl i) := by
  show amG t i 0 0 bg st = _
  unfold amG
  rw [if_neg (by rw [hn]; intro z; exact absurd z.2 (by decide)), if_neg (fun z => absurd z.1 (by decide)), if_neg (fun z => absurd z.1 (by decide)), if_neg (fun z => absurd z.1 (by decide)), if_pos (by decide)]
theorem am_sqc {k p : Int} {b : Bool} (hp : ph = 1 ∨ ph = 2) (hn : ph = 1 → opB t i = false) (ha : aoB t i = false) (hs : sgB t 93 i = true) : amStep t (i, (5, ph, bg) :: (k, p, b) :: st, true) = .inl (i + 1, (k, 2, b) :: st, true) := by
  show amG t i 5 ph bg ((k, p, b) :: st) = _
  unfold amG
  rw [if_neg (by
    intro z
    have := hn (by omega)
    rw [this] at z
    exact absurd z.2 (by decide)), if_neg (fun z => by omega), if_neg (by rw [ha]; intro z; exact absurd z.2 (by decide)), if_neg (fun z => by omega), if_neg (by decide), if_neg (by decide), if_pos rfl, if_pos hs]
  rfl
theorem am_sqc0 {k p : Int} {b : Bool} (hp : ph = 1 ∨ ph = 2) (hn : ph = 1 → opB t i = false) (ha : aoB t i = false) (hs : sgB t 93 i = false) : amStep t (i, (5, ph, bg) :: (k, p, b) :: st, true) = .inr (.inr (flt t i)) := by
  show amG t i 5 ph bg ((k, p, b) :: st) = _
  unfold amG
  rw [if_neg (by
    intro z
    have := hn (by omega)
    rw [this] at z
    exact absurd z.2 (by decide)), if_neg (fun z => by omega), if_neg (by rw [ha]; intro z; exact absurd z.2 (by decide)), if_neg (fun z => by omega), if_neg (by decide), if_neg (by decide), if_pos rfl, if_neg (by rw [hs]; decide)]
end AMS
/-! the Reader's recursion, as runs of the machine -/
def EN (s g : zF) : Prop := toks g = toks s ∧ g 3 = s 3 ∧ g 2 6 = s 2 6
theorem EN_refl {s : zF} : EN s s := ⟨rfl, rfl, rfl⟩
theorem EN_trans {s g h : zF} (a : EN s g) (b : EN g h) : EN s h := ⟨b.1.trans a.1, b.2.1.trans a.2.1, b.2.2.trans a.2.2⟩
theorem EN_fr {R : zRL} {s g : zF} (h : zFr R s g) (n : (zNA R 4 && zNA R 5 && zNA R 6) = true) (n3 : zNA R 3 = true) (n6 : zNS R 2 6 = true) : EN s g := ⟨toks_fr h n, h.a n3, h.s n6⟩
theorem EN_put {b : Nat} {s g : zF} (fb : b = 7 ∨ b = 28) (r : zFr [(b + 13, b + 14, 1), (b + 14, b + 15, 1000)] s g) : EN s g ∧ g 2 = s 2 := by
  rcases fb with z | z
  · subst z
    exact ⟨EN_fr r (by decide) (by decide) (by decide), r.a (by decide)⟩
  · subst z
    exact ⟨EN_fr r (by decide) (by decide) (by decide), r.a (by decide)⟩
theorem OWS_en {s g : zF} (h : OWS s) (e : EN s g) : OWS g := by
  intro k hk
  rw [e.2.1]
  exact h k hk
theorem TW_en {s g : zF} (h : TW s) (e : EN s g) (e7 : g 2 7 = s 2 7) : TW g := TW_fr h e7 e.2.2 (congrArg Prod.fst e.1)
theorem stp_ok {s g : zF} (tw : TW s) (h0 : s 4 (s 2 7).toNat ≠ 0) (h1 : s 4 (s 2 7).toNat ≠ 1) (q : g = stp s) : TW g ∧ g 2 7 = s 2 7 + 1 ∧ (g 2 7).toNat = (s 2 7).toNat + 1 ∧ EN s g := by
  obtain ⟨w1, w2, w3⟩ := TW_stp tw h0 h1
  rw [w1] at q
  rw [q]
  refine ⟨w2, zup_eq, w3, ?_, ?_, ?_⟩
  · exact toks_up (by decide)
  · exact zup_na (by decide)
  · exact zup_ne (Or.inr (by decide))
/-- isSign's answer, over the tokens of the start -/
theorem sg_q {s g : zF} {c v : Int} (e : EN s g) (q : v = 1 ∧ isSg (toks g) c (g 2 7).toNat ∨ v = 0 ∧ ¬ isSg (toks g) c (g 2 7).toNat) : v = 1 ∧ sgB (toks s) c (g 2 7).toNat = true ∨ v = 0 ∧ sgB (toks s) c (g 2 7).toNat = false := by
  rw [e.1] at q
  rcases q with ⟨a, b⟩ | ⟨a, b⟩
  · exact Or.inl ⟨a, sgB_iff.mpr b⟩
  · refine Or.inr ⟨a, ?_⟩
    cases z : sgB (toks s) c (g 2 7).toNat with
    | false => rfl
    | true => exact absurd (sgB_iff.mp z) b
theorem sg_k {s g : zF} {c : Int} (e : EN s g) (h : sgB (toks s) c (g 2 7).toNat = true) : g 4 (g 2 7).toNat = 5 := by
  have h2 := (sgB_iff.mp h).1
  rw [← e.1] at h2
  exact h2
def RPp (c : Nat) (s0 : zF) (v : Int) (g : zF) : Prop := (v = 1 → s0 2 7 < g 2 7) ∧ ∀ (kd ph : Int) (bg : Bool) (st : List zFm), st.length = c → frst (toks s0) (s0 2 7).toNat kd bg → PA (toks s0) ((s0 2 7).toNat, (kd, ph, bg) :: st, false) ((kd, ph, false) :: st) v g
def RSp (c : Nat) (s0 : zF) (v : Int) (g : zF) : Prop := (v = 1 → s0 2 7 < g 2 7 ∧ opB (toks s0) (g 2 7).toNat = false) ∧ ∀ (kd ph : Int) (bg : Bool) (st : List zFm), st.length = c → ph < 2 → frst (toks s0) (s0 2 7).toNat kd bg → PA (toks s0) ((s0 2 7).toNat, (kd, ph, bg) :: st, false) ((kd, ph, false) :: st) v g
def phv (t : zK) (v ph : Int) (g : zF) : Prop := ph = 1 ∧ (v = 1 → opB t (g 2 7).toNat = false) ∨ ph = 2
def RFp (c : Nat) (s0 : zF) (v : Int) (g : zF) : Prop := (v = 1 → s0 2 7 < g 2 7) ∧ ∀ (kd : Int) (st : List zFm), isT kd = true → st.length = c → ∃ ph, phv (toks s0) v ph g ∧ PA (toks s0) ((s0 2 7).toNat, (kd, 0, true) :: st, false) ((kd, ph, false) :: st) v g
def RTp (c : Nat) (s0 : zF) (v : Int) (g : zF) : Prop := (v = 1 → s0 2 7 < g 2 7 ∧ aoB (toks s0) (g 2 7).toNat = false) ∧ ∀ (kd : Int) (st : List zFm), isT kd = true → st.length = c → ∃ ph, phv (toks s0) v ph g ∧ PA (toks s0) ((s0 2 7).toNat, (kd, 0, true) :: st, false) ((kd, ph, false) :: st) v g
theorem PA_to {t : zK} {c0 : zCf} {st : List zFm} {v : Int} {g : zF} (h : PA t c0 st v g) (hv : ¬ v = 0) : amTo t c0 ((g 2 7).toNat, st, true) ∧ TW g := by
  rcases h with ⟨-, h⟩ | ⟨h, -⟩
  · exact h
  · exact absurd h hv
theorem PA_fin {t : zK} {c0 : zCf} {st : List zFm} {v : Int} {g : zF} (h : PA t c0 st v g) (hv : v = 0) : amFin t c0 (.inr (g 2 0, g 2 1)) := by
  rcases h with ⟨h, -⟩ | ⟨-, h⟩
  · omega
  · exact h
theorem frst_2 {t : zK} {i : Nat} {bg : Bool} : frst t i 2 bg := fun h => absurd h (by decide)
theorem frst_3 {t : zK} {i : Nat} {bg : Bool} : frst t i 3 bg := fun h => absurd h (by decide)
theorem frst_4 {t : zK} {i : Nat} {bg : Bool} : frst t i 4 bg := fun h => absurd h (by decide)
theorem frst_0 {t : zK} {i : Nat} {bg : Bool} : frst t i 0 bg := fun h => absurd h (by decide)
theorem frst_n {t : zK} {i : Nat} {kd : Int} : frst t i kd false := fun _ h => absurd h (by decide)
