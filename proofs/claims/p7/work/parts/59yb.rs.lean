/-! the reference's small steps, held against what is due -/
def RSq (t : zK) (P : Nat → Nat) (e : Nat) (r : zP) (s : zF) : Prop := match r with
  | .inl i => i ≤ e ∧ PRT t P i s
  | .inr f => s 386 8 = f.1 ∧ s 386 9 = f.2 ∧ 0 < f.1
section RSS
variable {T : Nat → Int} {L e : Nat} {t : zK} {P : Nat → Nat} {r : zP} {s g : zF} {F : Nat → zP}
theorem rs_fault (h : RSq t P e r s) (hf : 0 < s 386 8) (hF : ∀ i, t.1 i = 1 → F i = .inr (1, t.2.1 i)) : RSq t P e (zbd r F) s := by
  cases r with
  | inr f => exact h
  | inl i =>
    obtain ⟨h1, h2⟩ := h
    rcases h2 with h2 | ⟨h2, h3, h4⟩
    · have := h2.2.1
      omega
    · show RSq t P e (F i) s
      rw [hF i h2]
      exact ⟨h3, h4, by show (0 : Int) < 1; decide⟩
theorem rs_ok (h : RSq t P e r s) (h0 : s 386 8 ≤ 0) : ∃ i, r = .inl i ∧ i ≤ e ∧ ATT t P i s := by
  cases r with
  | inr f =>
    obtain ⟨h1, h2, h3⟩ := h
    omega
  | inl i =>
    obtain ⟨h1, h2⟩ := h
    rcases h2 with h2 | ⟨h2, h3, h4⟩
    · exact ⟨i, rfl, h1, h2⟩
    · omega
theorem att_flt {i : Nat} (A : ATT t P i s) : (s 386 4 : Int) = (flt t i).2 := by
  unfold flt
  by_cases z : t.1 i = 1
  · have := A.2.2.2.2.2.2.2.2 z
    show s 386 4 = if t.1 i = 1 then t.2.1 i else t.2.2 i
    rw [if_pos z, this.2.2]
    exact A.2.2.1
  · show s 386 4 = if t.1 i = 1 then t.2.1 i else t.2.2 i
    rw [if_neg z]
    exact A.2.2.1
theorem rs_blame {i : Nat} {x : Int} (A : ATT t P i s) (hF : F i = .inr (flt t i)) (g8 : g 386 8 = 1) (g9 : g 386 9 = x) (hx : x = s 386 4) : RSq t P e (zbd (.inl i) F) g := by
  show RSq t P e (F i) g
  rw [hF]
  exact ⟨g8, (g9.trans hx).trans (att_flt A), by show (0 : Int) < 1; decide⟩
theorem rs_blame2 {i : Nat} {x k : Int} (A : ATT t P i s) (hF : F i = .inr (k, t.2.2 i)) (hk : 0 < k) (g8 : g 386 8 = k) (g9 : g 386 9 = x) (hx : x = s 386 4) : RSq t P e (zbd (.inl i) F) g := by
  show RSq t P e (F i) g
  rw [hF]
  exact ⟨g8, (g9.trans hx).trans A.2.2.1, hk⟩
theorem rs_next {i : Nat} (tk : Toks T L t.1 t.2.1 t.2.2 P e) (A : ATT t P i s) (hi : i ≤ e) (k0 : t.1 i ≠ 0) (k1 : t.1 i ≠ 1) (hF : F i = .inl (i + 1)) (ha : AH T L (s 386 5).toNat g) : RSq t P e (zbd (.inl i) F) g := by
  obtain ⟨⟨t0, t1, t2⟩, t3, t4⟩ := tk
  have hl : i < e := by
    by_cases z : i = e
    · rw [z] at k0 k1
      omega
    · omega
  have hp : (s 386 5).toNat = P (i + 1) := by
    have := A.2.2.2.1
    omega
  rw [hp] at ha
  show RSq t P e (F i) g
  rw [hF]
  refine ⟨by omega, ahead_tok (T := T) (L := L) (e := e) ?_ ha⟩
  by_cases z : i + 1 = e
  · rw [z]
    exact t3
  · exact t1 (i + 1) (by omega)
/-- the word at the token, both forms -/
theorem att_word {i : Nat} (A : ATT t P i s) (h3 : s 386 3 = 1) : t.1 i = 2 ∧ s 386 7 = c8 (t.2.1 i) ∧ c5 (s 386 7) = t.2.1 i := by
  obtain ⟨a0, a1, a2, a3, a4, a5, a6, a7, a8⟩ := A
  have k : t.1 i = 2 := by
    rcases a0 with z | z | z | z | z
    · have := a4 z
      omega
    · have := (a8 z).1
      omega
    · exact z
    · have := (a6 z).1
      omega
    · have := (a7 z).1
      omega
  obtain ⟨-, w1, w2⟩ := a5 k
  exact ⟨k, w1, by rw [w1]; exact w2⟩
theorem att_noword {i : Nat} (A : ATT t P i s) (h3 : s 386 3 ≠ 1) : t.1 i ≠ 2 := fun z => h3 (A.2.2.2.2.2.1 z).1
theorem nOw_no {w : Int} {i : Nat} (h : t.1 i ≠ 2) (hw : 0 ≤ w) : nOw t w i = .inr (flt t i) := if_neg (by rw [tokI_n h]; omega)
theorem flt_bad {i : Nat} (h : t.1 i = 1) : flt t i = (1, t.2.1 i) := by
  unfold flt
  rw [if_pos h]
theorem nOw_bad {w : Int} {i : Nat} (hw : 0 ≤ w) (h : t.1 i = 1) : nOw t w i = .inr (1, t.2.1 i) := by
  rw [nOw_no (by omega) hw, flt_bad h]
theorem nNu_bad {lo hi : Int} {i : Nat} (h : t.1 i = 1) : nNu t lo hi i = .inr (1, t.2.1 i) := by
  rw [nNu_0 (by omega), flt_bad h]
theorem nNa_bad {tk : Int → Bool} {i : Nat} (h : t.1 i = 1) : nNa t tk i = .inr (1, t.2.1 i) := by
  rw [nNa_0 (fun z => by omega), flt_bad h]
/-- an own word of the reference: its two forms -/
def OW (w : Nat) (a : Int) : Prop := w < 27 ∧ c5 a = W5 w ∧ c8 (W5 w) = a
theorem nOw_yes {i w : Nat} {a : Int} (A : ATT t P i s) (h3 : s 386 3 = 1) (hw : OW w a) (h : s 386 7 = a) : nOw t (w : Int) i = .inl (i + 1) ∧ t.1 i = 2 := by
  obtain ⟨k, w1, w2⟩ := att_word A h3
  rw [h, hw.2.1] at w2
  refine ⟨if_pos ?_, k⟩
  show (if t.1 i = 2 then owI (t.2.1 i) else -1) = (w : Int)
  rw [if_pos k, ← w2, W5_own w hw.1]
theorem nOw_else {i w : Nat} {a : Int} (A : ATT t P i s) (h3 : s 386 3 = 1) (hw : OW w a) (h : s 386 7 ≠ a) : nOw t (w : Int) i = .inr (flt t i) := by
  obtain ⟨k, w1, w2⟩ := att_word A h3
  refine if_neg (fun z => h ?_)
  have z2 : (if t.1 i = 2 then owI (t.2.1 i) else -1) = (w : Int) := z
  rw [if_pos k] at z2
  obtain ⟨w', hw', e1, e2⟩ := owI_of (v := t.2.1 i) (by omega)
  have e3 : w' = w := by omega
  rw [w1, e1, e3]
  exact hw.2.2
end RSS
