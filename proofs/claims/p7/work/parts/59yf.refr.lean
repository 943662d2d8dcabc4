/-! the reference's reader, held against the tokens: words, signs, names -/
def W8l : List Int := [439956431717, 131277443786868, 431198598248, 482854658917, 120299592184933, 108187867505765, 1717922932, 6451065, 1868850291, 483006377075, 126918153364851, 444133766004, 495739560811, 24948, 431415976301, 7632231, 465491424371, 123563851081075, 1885434739, 1684366704, 2003330414, 28530, 6385252, 7237492, 6384748, 7170414, 7168376]
def W8 (w : Nat) : Int := W8l.getD w 0
theorem W8_c : ∀ w : Nat, w < 27 → c8 (W5 w) = W8 w ∧ c5 (W8 w) = W5 w := by decide +kernel
theorem OW_w {w : Nat} {a : Int} (h : w < 27) (e : W8 w = a) : OW w a := by
  obtain ⟨h1, h2⟩ := W8_c w h
  rw [e] at h1 h2
  exact ⟨h, h2, h1⟩
theorem own_none {x : Int} (h : ∀ w : Nat, w < 27 → c8 x ≠ W8 w) : owI x = -1 := by
  by_cases z : owI x = -1
  · exact z
  · obtain ⟨w, h1, h2, -⟩ := owI_of z
    exact absurd (by rw [h2]; exact (W8_c w h1).1) (h w h1)
theorem own_some {x a : Int} {w : Nat} (hx : c5 (c8 x) = x) (hw : OW w a) (h : c8 x = a) : owI x = (w : Int) := by
  rw [h, hw.2.1] at hx
  rw [← hx]
  exact W5_own w hw.1
section RFA
variable {T : Nat → Int} {L e : Nat} {t : zK} {P : Nat → Nat} {r : zP} {s g : zF} {i : Nat}
theorem att_own {w : Nat} {a : Int} (A : ATT t P i s) (hw : OW w a) : tokI t i = (w : Int) ↔ s 386 3 = 1 ∧ s 386 7 = a := by
  constructor
  · intro h
    have k : t.1 i = 2 := tokI_2 (by omega)
    obtain ⟨w1, w2, w3⟩ := A.2.2.2.2.2.1 k
    refine ⟨w1, ?_⟩
    have h2 : owI (t.2.1 i) = (w : Int) := by
      have h3 : (if t.1 i = 2 then owI (t.2.1 i) else -1) = (w : Int) := h
      rw [if_pos k] at h3
      exact h3
    obtain ⟨w', b1, b2, b3⟩ := owI_of (v := t.2.1 i) (by omega)
    have e3 : w' = w := by omega
    rw [w2, b2, e3]
    exact hw.2.2
  · intro ⟨h1, h2⟩
    obtain ⟨k, w1, w2⟩ := att_word A h1
    show (if t.1 i = 2 then owI (t.2.1 i) else -1) = (w : Int)
    rw [if_pos k]
    rw [h2, hw.2.1] at w2
    rw [← w2]
    exact W5_own w hw.1
theorem att_k3 (A : ATT t P i s) : (t.1 i = 0 ↔ s 386 3 = 0) ∧ (t.1 i = 2 ↔ s 386 3 = 1) ∧ (t.1 i = 4 ↔ s 386 3 = 2) := by
  obtain ⟨a0, a1, a2, a3, a4, a5, a6, a7, a8⟩ := A
  rcases a0 with z | z | z | z | z
  · have := a4 z
    refine ⟨⟨fun _ => by omega, fun _ => by omega⟩, ⟨fun _ => by omega, fun _ => by omega⟩, fun _ => by omega, fun _ => by omega⟩
  · have := (a8 z).1
    refine ⟨⟨fun _ => by omega, fun _ => by omega⟩, ⟨fun _ => by omega, fun _ => by omega⟩, fun _ => by omega, fun _ => by omega⟩
  · have := (a5 z).1
    refine ⟨⟨fun _ => by omega, fun _ => by omega⟩, ⟨fun _ => by omega, fun _ => by omega⟩, fun _ => by omega, fun _ => by omega⟩
  · have := (a6 z).1
    refine ⟨⟨fun _ => by omega, fun _ => by omega⟩, ⟨fun _ => by omega, fun _ => by omega⟩, fun _ => by omega, fun _ => by omega⟩
  · have := (a7 z).1
    refine ⟨⟨fun _ => by omega, fun _ => by omega⟩, ⟨fun _ => by omega, fun _ => by omega⟩, fun _ => by omega, fun _ => by omega⟩
theorem att_sg {c : Int} (A : ATT t P i s) (hc : sgL.contains c = true) : sgB t c i = true ↔ s 386 3 = 3 ∧ s 386 6 = c := by
  constructor
  · intro h
    obtain ⟨h1, h2⟩ := sgB_iff.mp h
    obtain ⟨b1, b2⟩ := A.2.2.2.2.2.2.2.1 h1
    exact ⟨b1, b2.trans h2⟩
  · intro ⟨h1, h2⟩
    obtain ⟨a0, a1, a2, a3, a4, a5, a6, a7, a8⟩ := A
    rcases a0 with z | z | z | z | z
    · have := a4 z
      omega
    · have := (a8 z).2.1
      rw [h2, hc] at this
      exact absurd this (by decide)
    · have := (a5 z).1
      omega
    · have := (a6 z).1
      omega
    · exact sgB_iff.mpr ⟨z, (a7 z).2.symm.trans h2⟩
theorem att_nsg {c : Int} (A : ATT t P i s) (hc : sgL.contains c = true) (h : ¬(s 386 3 = 3 ∧ s 386 6 = c)) : sgB t c i = false := by
  cases z : sgB t c i with
  | false => rfl
  | true => exact absurd ((att_sg A hc).mp z) h
theorem att_now {w : Nat} {a : Int} (A : ATT t P i s) (hw : OW w a) (h : ¬(s 386 3 = 1 ∧ s 386 7 = a)) : tokI t i ≠ (w : Int) := fun z => h ((att_own A hw).mp z)
theorem nSc_bad (h : t.1 i = 1) : nSc t i = .inr (1, t.2.1 i) := by
  rw [nSc_0 (sgB_ne (by omega)), flt_bad h]
/-- what stays where the reader's own slots stay -/
theorem ATT_fr (A : ATT t P i s) (h : ∀ k, 3 ≤ k → k ≤ 8 → g 386 k = s 386 k) : ATT t P i g := by
  unfold ATT
  rw [h 3 (by decide) (by decide), h 4 (by decide) (by decide), h 5 (by decide) (by decide), h 6 (by decide) (by decide), h 7 (by decide) (by decide), h 8 (by decide) (by decide)]
  exact A
theorem PRT_fr (A : PRT t P i s) (h : ∀ k, 3 ≤ k → k ≤ 9 → g 386 k = s 386 k) : PRT t P i g := by
  rcases A with A | ⟨a, b, c⟩
  · exact Or.inl (ATT_fr A fun k k1 k2 => h k k1 (by omega))
  · exact Or.inr ⟨a, (h 8 (by decide) (by decide)).trans b, (h 9 (by decide) (by decide)).trans c⟩
theorem RSq_fr (R : RSq t P e r s) (h : ∀ k, 3 ≤ k → k ≤ 9 → g 386 k = s 386 k) : RSq t P e r g := by
  cases r with
  | inl i => exact ⟨R.1, PRT_fr R.2 h⟩
  | inr f => exact ⟨(h 8 (by decide) (by decide)).trans R.1, (h 9 (by decide) (by decide)).trans R.2.1, R.2.2⟩
theorem RSq_st {a k : Nat} {v : Int} (R : RSq t P e r s) (h : a ≠ 386) : RSq t P e r (zup s a k v) := RSq_fr R fun _ _ _ => zup_ne (Or.inl (Ne.symm h))
theorem RSq_sl {k : Nat} {v : Int} (R : RSq t P e r s) (h : 9 < k ∨ k < 3) : RSq t P e r (zup s 386 k v) := RSq_fr R fun _ _ _ => zup_ne (Or.inr (by omega))
/-- names, as the reference keeps them -/
def NLr (t : zK) (e : Nat) (n : Int) (f : Nat → Int) (o : Nat) (B : List Nat) : Prop := n = (B.length : Int) ∧ ∀ k : Nat, k < B.length → f (o + k) = c8 (t.2.1 (B.getD k 0 + 1)) ∧ c5 (c8 (t.2.1 (B.getD k 0 + 1))) = t.2.1 (B.getD k 0 + 1) ∧ t.1 (B.getD k 0 + 1) = 2 ∧ B.getD k 0 + 1 ≤ e
theorem NLr_1 {n : Int} {f : Nat → Int} {o k : Nat} {B : List Nat} {x : Int} (h : NLr t e n f o B) (hx : c5 (c8 x) = x) (hk : k < B.length) (e : f (o + k) = c8 x) : (B.any fun p => t.2.1 (p + 1) == x) = true := by
  obtain ⟨h1, h2⟩ := h
  obtain ⟨a, b, -⟩ := h2 k hk
  rw [List.any_eq_true]
  refine ⟨B.getD k 0, ?_, ?_⟩
  · rw [List.getD_eq_getElem?_getD, List.getElem?_eq_getElem hk]
    exact List.getElem_mem hk
  · rw [beq_iff_eq, ← b, ← a, e, hx]
theorem NLr_0 {n : Int} {f : Nat → Int} {o : Nat} {B : List Nat} {x : Int} (h : NLr t e n f o B) (hx : c5 (c8 x) = x) (e : ∀ k : Nat, k < B.length → f (o + k) ≠ c8 x) : (B.any fun p => t.2.1 (p + 1) == x) = false := by
  obtain ⟨h1, h2⟩ := h
  rw [List.any_eq_false]
  intro p hp
  obtain ⟨k, hk⟩ := List.mem_iff_getElem?.mp hp
  have hl : k < B.length := (List.getElem?_eq_some_iff.mp hk).1
  obtain ⟨a, b, -⟩ := h2 k hl
  have eg : B.getD k 0 = p := by
    rw [List.getD_eq_getElem?_getD, hk]
    rfl
  rw [eg] at a
  rw [beq_iff_eq]
  intro z
  exact e k hl (a.trans (by rw [z]))
theorem NLr_e {f : Nat → Int} {o : Nat} {n : Int} (h : n = 0) : NLr t e n f o [] := ⟨h, fun k hk => absurd hk (by simp)⟩
theorem NLr_s {n m : Int} {f g : Nat → Int} {o : Nat} {B : List Nat} {i : Nat} (h : NLr t e n f o B) (hm : m = n + 1) (hx : g (o + n.toNat) = c8 (t.2.1 (i + 1)) ∧ c5 (c8 (t.2.1 (i + 1))) = t.2.1 (i + 1) ∧ t.1 (i + 1) = 2 ∧ i + 1 ≤ e) (ho : ∀ k, k ≠ o + n.toNat → g k = f k) : NLr t e m g o (B ++ [i]) := by
  obtain ⟨h1, h2⟩ := h
  refine ⟨by simp; omega, fun k hk => ?_⟩
  rw [List.length_append, List.length_singleton] at hk
  by_cases z : k = n.toNat
  · have e : B.length = k := by omega
    rw [← z] at hx
    have eg : (B ++ [i]).getD k 0 = i := by
      rw [List.getD_eq_getElem?_getD, List.getElem?_append_right (by omega), e, Nat.sub_self]
      rfl
    rw [eg]
    exact hx
  · have eg : (B ++ [i]).getD k 0 = B.getD k 0 := by
      rw [List.getD_eq_getElem?_getD, List.getD_eq_getElem?_getD, List.getElem?_append_left (by omega)]
    rw [ho (o + k) (by omega), eg]
    exact h2 k (by omega)
theorem NLr_fr {n m : Int} {f g : Nat → Int} {o : Nat} {B : List Nat} (h : NLr t e n f o B) (hm : m = n) (hg : g = f) : NLr t e m g o B := by
  rw [hm, hg]
  exact h
/-- the reference's DORM while the text is read -/
def DIR (t : zK) (e : Nat) (s : zF) (d : zDS) : Prop := ∃ w : Nat, w < 2 ∧ s 386 35 = (w : Int) ∧ NLr t e (s 388 w) (s 389) (12 * w) (dB d) ∧ NLr t e (s 396 w) (s 397) (6 * w) (dD d) ∧ s 402 w = ((dL d).length : Int)
theorem DIR_fr {d : zDS} (h : DIR t e s d) (h35 : g 386 35 = s 386 35) (h8 : g 388 = s 388) (h9 : g 389 = s 389) (h6 : g 396 = s 396) (h7 : g 397 = s 397) (h2 : g 402 = s 402) : DIR t e g d := by
  unfold DIR
  rw [h35, h8, h9, h6, h7, h2]
  exact h
theorem zbd_as {r : zP} {F G : Nat → zP} : zbd (zbd r F) G = zbd r (fun i => zbd (F i) G) := by
  cases r <;> rfl
/-- the MARKS as the reference takes them: a word that is none is blamed at once -/
def mkG (t : zK) : Nat → Int → Nat → zP
  | 0, _, i => if t.1 i = 2 then .inr (flt t i) else .inl i
  | n + 1, m, i => if tokI t i = 10 then (if m = 1 ∨ m = 3 then .inr (flt t i) else mkG t n (m + 1) (i + 1)) else if tokI t i = 11 then (if m = 2 ∨ m = 3 then .inr (flt t i) else mkG t n (m + 2) (i + 1)) else if t.1 i = 2 then .inr (flt t i) else .inl i
theorem mkw_sc : zbd (if t.1 i = 2 then .inr (flt t i) else .inl i) (nSc t) = nSc t i := by
  by_cases z : t.1 i = 2
  · rw [if_pos z, nSc_0 (sgB_ne (by omega))]
    rfl
  · rw [if_neg z]
    rfl
theorem mkG_sc : ∀ (n : Nat) (m : Int) (i : Nat), zbd (mkG t n m i) (nSc t) = zbd (mkF t n m i).1 (nSc t) := by
  intro n
  induction n with
  | zero =>
    intro m i
    exact mkw_sc
  | succ n ih =>
    intro m i
    rw [mkG, mkF]
    by_cases h10 : tokI t i = 10
    · rw [if_pos h10, if_pos h10]
      by_cases hm : m = 1 ∨ m = 3
      · rw [if_pos hm, if_pos hm]
      · rw [if_neg hm, if_neg hm]
        exact ih _ _
    · rw [if_neg h10, if_neg h10]
      by_cases h11 : tokI t i = 11
      · rw [if_pos h11, if_pos h11]
        by_cases hm : m = 2 ∨ m = 3
        · rw [if_pos hm, if_pos hm]
        · rw [if_neg hm, if_neg hm]
          exact ih _ _
      · rw [if_neg h11, if_neg h11]
        exact mkw_sc
theorem mkG_bad {n : Nat} {m : Int} (h : t.1 i = 1) : mkG t n m i = .inl i := by
  have k : tokI t i = -1 := tokI_n (by omega)
  cases n with
  | zero => exact if_neg (by omega)
  | succ n =>
    rw [mkG, if_neg (by omega), if_neg (by omega), if_neg (by omega)]
theorem boy_eq {tk : Int → Bool} : zbd (zbd (zbd (zbd (zbd (zbd (zbd (zbd (zbd (zbd (zbd (.inl (i + 1)) (nNa t tk)) (nOw t 1)) (nNu t 1 99)) (nOw t 2)) (nNu t 1 999)) (nOw t 8)) (nNu t 0 100)) (nOw t 9)) (nNu t 0 99)) (mkG t 3 0)) (nSc t) = zbd (spBoy t tk i) (nSc t) := by
  unfold spBoy
  simp only [zbd_as, zbd_l, mkG_sc]
theorem dream_eq {tk : Int → Bool} : zbd (zbd (zbd (zbd (zbd (zbd (zbd (zbd (zbd (.inl (i + 1)) (nNa t tk)) (nOw t 15)) (nNu t 1 999)) (nOw t 16)) (nNu t 1 60)) (nOw t 17)) (nNu t 1 999)) (nOw t 8)) (nNu t 1 99) = spDream t tk i := by
  unfold spDream
  simp only [zbd_as, zbd_l]
theorem slack_eq : zbd (zbd (zbd (.inl (i + 1)) (nNu t 0 99)) (nOw t 13)) (nNu t 0 10) = spSlack t i := by
  unfold spSlack
  simp only [zbd_as, zbd_l]
end RFA
section RFB
variable {T : Nat → Int} {L e : Nat} {t : zK} {P : Nat → Nat} {r : zP} {s g : zF} {F : Nat → zP} {i k : Nat}
theorem rs_fault2 (h : RSq t P e r s) (hf : 0 < s 386 8) (hF : ∀ i, t.1 i = 1 → F i = .inr (1, t.2.1 i) ∨ F i = .inl i) : RSq t P e (zbd r F) s := by
  cases r with
  | inr f => exact h
  | inl i =>
    obtain ⟨h1, h2⟩ := h
    rcases h2 with h2 | ⟨h2, h3, h4⟩
    · have := h2.2.1
      omega
    · show RSq t P e (F i) s
      rcases hF i h2 with z | z
      · rw [z]
        exact ⟨h3, h4, by show (0 : Int) < 1; decide⟩
      · rw [z]
        exact ⟨h1, Or.inr ⟨h2, h3, h4⟩⟩
theorem zbd_ok (h : zbd r F = .inl k) : ∃ j, r = .inl j ∧ F j = .inl k := by
  cases r with
  | inl j => exact ⟨j, rfl, h⟩
  | inr f => exact absurd h (by intro z; cases z)
/-- at a BAD token the machine stops at once, or has read all -/
theorem am_bad {st : List zFm} {b : Bool} (h : t.1 i = 1) : amStep t (i, st, b) = .inr (.inr (flt t i)) ∨ amStep t (i, st, b) = .inr (.inl i) := by
  have k1 : tokI t i = -1 := tokI_n (by omega)
  have k5 : ∀ c, sgB t c i = false := fun c => sgB_ne (by omega)
  cases st with
  | nil => exact Or.inl rfl
  | cons f st =>
    obtain ⟨kd, ph, bg⟩ := f
    cases b with
    | false =>
      refine Or.inl ?_
      show amO t i kd ph bg st = _
      unfold amO
      rw [k1, k5 91, k5 40]
      rw [if_neg (by simp), if_neg (by simp), if_neg (by simp), if_neg (by simp), if_neg (by omega), if_neg (by omega)]
    | true =>
      show amG t i kd ph bg st = _ ∨ amG t i kd ph bg st = _
      have o : opB t i = false := by
        unfold opB
        rw [k5, k5, k5, k5, k5]
        rfl
      have c : cmB t i = false := by
        unfold cmB
        rw [k5, k5, k5]
        rfl
      have a : aoB t i = false := by
        unfold aoB
        rw [k1]
        rfl
      unfold amG
      rw [o, c, a, if_neg (by simp), if_neg (by simp), if_neg (by simp)]
      by_cases z1 : isT kd = true ∧ ph = 0
      · rw [if_pos z1]
        exact Or.inl rfl
      · rw [if_neg z1]
        by_cases z2 : kd < 2
        · rw [if_pos z2]
          exact Or.inr rfl
        · rw [if_neg z2]
          by_cases z3 : kd = 3
          · rw [if_pos z3, if_neg (by rw [k5]; decide)]
            exact Or.inl rfl
          · rw [if_neg z3, if_neg (by rw [k5]; decide)]
            exact Or.inl rfl
theorem am_bad0 {kd ph : Int} {bg : Bool} {st : List zFm} (h : t.1 i = 1) : amStep t (i, (kd, ph, bg) :: st, false) = .inr (.inr (flt t i)) := by
  rcases am_bad (st := (kd, ph, bg) :: st) (b := false) h with z | z
  · exact z
  · have k1 : tokI t i = -1 := tokI_n (by omega)
    have k5 : ∀ c, sgB t c i = false := fun c => sgB_ne (by omega)
    show amO t i kd ph bg st = _
    unfold amO
    rw [k1, k5 91, k5 40]
    rw [if_neg (by simp), if_neg (by simp), if_neg (by simp), if_neg (by simp), if_neg (by omega), if_neg (by omega)]
/-- what reads() leaves -/
def RDS (t : zK) (a : Int) (r r' : zP) : Prop := (∀ i, r = .inl i → amFin t (i, [(a, 0, true)], false) r') ∧ ∀ f, r = .inr f → r' = .inr f
theorem law_mk {r2 r3 : zP} (h1 : RDS t 0 (.inl (i + 1)) r2) (h2 : RDS t 1 (zbd r2 (nOw t 20)) r3) : spLaw t i r3 := by
  have a1 := h1.1 (i + 1) rfl
  cases r2 with
  | inr f =>
    have e := h2.2 f rfl
    rw [e]
    exact spLaw_0 a1
  | inl j =>
    cases hn : nOw t 20 j with
    | inr f =>
      have e := h2.2 f hn
      rw [e]
      exact spLaw_1 a1 hn
    | inl k => exact spLaw_2 a1 hn (h2.1 k hn)
theorem rds_bad {a : Int} (h : t.1 i = 1) : RDS t a (.inl i) (.inr (flt t i)) := by
  refine ⟨fun j hj => ?_, fun f hf => by cases hf⟩
  cases hj
  exact amFin_1 (am_bad0 h)
end RFB
theorem am_badF {t : zK} {i : Nat} {a : Int} (h : t.1 i = 1) : amFin t (i, [(a, 0, true)], false) (.inr (flt t i)) := amFin_1 (am_bad0 h)
