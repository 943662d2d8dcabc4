/-! the end of a STATEMENT, the whole text, as the reference reads them -/
def end90 (t : zK) (k : Nat) : zP := if t.1 k = 0 then .inl k else .inr (5, t.2.2 k)
def enF (t : zK) (n : Int) (i : Nat) : zP := zbd (nSc t i) (if n = 90 then end90 t else .inl)
theorem tok_at {T : Nat → Int} {L e i v : Nat} {t : zK} {P : Nat → Nat} (tk : Toks T L t.1 t.2.1 t.2.2 P e) (hi : i + 1 ≤ e) (h : AB T L (P (i + 1)) v) : (v < L → kof (T v) ≠ 0 → t.1 (i + 1) ≠ 0 ∧ t.2.2 (i + 1) = (v : Int)) ∧ (L ≤ v → t.1 (i + 1) = 0) := by
  obtain ⟨⟨t0, t1, t2⟩, t3, t4⟩ := tk
  have h1 : TokAt T L t.1 t.2.1 t.2.2 (i + 1) (P (i + 1)) (P (i + 1 + 1)) := by
    by_cases z : i + 1 = e
    · rw [z]
      exact t3
    · exact t1 (i + 1) (by omega)
  obtain ⟨a, b1, b2, b3, b4, b5⟩ := h1
  obtain ⟨c1, c2, c3⟩ := h
  have na : a < L → kof (T a) ≠ 0 := by
    intro hl
    rcases b5 with ⟨z, -⟩ | ⟨-, z, -⟩ | ⟨-, z, -⟩ | ⟨-, z, -⟩ | ⟨-, r, hr, z1, -, -, z2, -⟩ | ⟨-, r, hr, z1, z2, -⟩
    · omega
    · omega
    · omega
    · exact (run_0 z).1
    · rw [z2 a (Nat.le_refl _) z1]
      exact (run_0 hr).1
    · rw [z2 a (Nat.le_refl _) (by omega)]
      exact (run_0 hr).1
  refine ⟨fun hv hk => ?_, fun hv => ?_⟩
  · have ea : a = v := by
      rcases Nat.lt_trichotomy a v with z | z | z
      · exact absurd (c3 a b1 z) (na (by omega))
      · exact z
      · exact absurd (b3 v c1 z) hk
    refine ⟨?_, by omega⟩
    rcases b5 with ⟨z, -⟩ | ⟨-, -, z, -⟩ | ⟨-, -, z, -⟩ | ⟨-, -, -, z, -⟩ | ⟨-, r, hr, -, -, -, -, -, z, -⟩ | ⟨-, r, hr, -, -, z, -⟩
    · omega
    · omega
    · omega
    · omega
    · unfold run at hr
      omega
    · omega
  · have ea : a = L := by
      by_cases z : a < L
      · exact absurd (c3 a b1 (by omega)) (na z)
      · omega
    rcases b5 with ⟨-, z, -⟩ | ⟨z, -⟩ | ⟨z, -⟩ | ⟨z, -⟩ | ⟨-, r, hr, z1, z2, -⟩ | ⟨-, r, hr, z, -⟩
    · exact z
    · omega
    · omega
    · omega
    · omega
    · omega
section ENS
variable {t : zK} {P : Nat → Nat} {e i : Nat} {n : Int} {g : zF}
theorem en_n (hn : n ≠ 90) : enF t n i = nSc t i := by
  unfold enF
  rw [if_neg hn]
  cases nSc t i <;> rfl
theorem en_f (h : sgB t 59 i = false) : enF t n i = .inr (flt t i) := by
  unfold enF
  rw [nSc_0 h]
  rfl
theorem en_90 (h : sgB t 59 i = true) : enF t 90 i = end90 t (i + 1) := by
  unfold enF
  rw [nSc_1 h, if_pos rfl]
  rfl
theorem en_bad (h : t.1 i = 1) : enF t n i = .inr (1, t.2.1 i) := by
  rw [en_f (sgB_ne (by omega)), flt_bad h]
/-- where the reference's dorm() stands with n STATEMENTS told -/
def PRR (t : zK) (n : Int) (d : zDS) : zP → Prop
  | .inl i => prF t 91 ds0 0 = prF t ((90 - n).toNat + 1) d i ∧ (n = 90 → t.1 i = 0)
  | .inr f => prF t 91 ds0 0 = .inr f
theorem prr_0 : PRR t 0 ds0 (.inl 0) := ⟨rfl, fun h => absurd h (by decide)⟩
theorem prr_s {d : zDS} {r' : zP} (h : PRR t n d (.inl i)) (h0 : t.1 i ≠ 0) (hn0 : 0 ≤ n) (hn : n ≤ 90) (hr : zbd r' (nSc t) = zbd (stF t d i) (nSc t)) : n < 90 ∧ PRR t (n + 1) (stD t d i) (zbd r' (enF t (n + 1))) := by
  obtain ⟨h1, h2⟩ := h
  have hl : n < 90 := by
    by_cases z : n = 90
    · exact absurd (h2 z) h0
    · omega
  refine ⟨hl, ?_⟩
  have e1 : (90 - n).toNat ≠ 0 := by omega
  have e2 : zbd r' (enF t (n + 1)) = zbd (zbd (stF t d i) (nSc t)) (if n + 1 = 90 then end90 t else .inl) := by
    rw [← hr]
    cases r' <;> rfl
  rw [e2]
  cases hs : zbd (stF t d i) (nSc t) with
  | inr f =>
    show prF t 91 ds0 0 = .inr f
    rw [h1, prF_f h0 e1 hs]
  | inl j =>
    have e3 : prF t 91 ds0 0 = prF t ((90 - (n + 1)).toNat + 1) (stD t d i) j := by
      rw [h1, prF_s h0 e1 hs]
      congr 1
      omega
    by_cases z : n + 1 = 90
    · show PRR t (n + 1) (stD t d i) ((if n + 1 = 90 then end90 t else .inl) j)
      rw [if_pos z]
      unfold end90
      by_cases y : t.1 j = 0
      · rw [if_pos y]
        exact ⟨e3, fun _ => y⟩
      · rw [if_neg y]
        show prF t 91 ds0 0 = .inr (5, t.2.2 j)
        rw [e3, z]
        exact prF_full y
    · show PRR t (n + 1) (stD t d i) ((if n + 1 = 90 then end90 t else .inl) j)
      rw [if_neg z]
      exact ⟨e3, fun w => absurd w z⟩
theorem prr_end {d : zDS} (h : PRR t n d (.inl i)) (h0 : t.1 i = 0) (hn0 : 0 ≤ n) (hn : n ≤ 90) : prF t 91 ds0 0 = .inl (n.toNat, d) := by
  rw [h.1, prF_end h0]
  rw [show 90 - (90 - n).toNat = n.toNat by omega]
theorem prr_bad {d : zDS} (h : PRR t n d (.inl i)) (h1 : t.1 i = 1) (hn0 : 0 ≤ n) (hn : n ≤ 90) : prF t 91 ds0 0 = .inr (1, t.2.1 i) := by
  have hl : n < 90 := by
    by_cases z : n = 90
    · have := h.2 z
      omega
    · omega
  rw [h.1, prF_f (by omega) (by omega) (f := (1, t.2.1 i))]
  have k : tokI t i = -1 := tokI_n (by omega)
  rw [stF_x (by omega) (by omega) (by omega) (by omega) (by omega), flt_bad h1]
  rfl
end ENS
/-- the reference writes into one half alone -/
def HFS (s g : zF) : Prop := (∀ k : Nat, (k : Int) ≠ s 386 35 → g 388 k = s 388 k) ∧ (∀ k : Nat, (k : Int) < 12 * s 386 35 ∨ 12 * s 386 35 + 12 ≤ (k : Int) → g 389 k = s 389 k) ∧ (∀ k : Nat, (k : Int) ≠ s 386 35 → g 396 k = s 396 k) ∧ ∀ k : Nat, (k : Int) < 6 * s 386 35 ∨ 6 * s 386 35 + 6 ≤ (k : Int) → g 397 k = s 397 k
/-- the half that stands is as before -/
def HSB (s g : zF) : Prop := (∀ k : Nat, (k : Int) = s 386 12 → g 388 k = s 388 k) ∧ (∀ k : Nat, 12 * s 386 12 ≤ (k : Int) → (k : Int) < 12 * s 386 12 + 12 → g 389 k = s 389 k) ∧ (∀ k : Nat, (k : Int) = s 386 12 → g 396 k = s 396 k) ∧ ∀ k : Nat, 6 * s 386 12 ≤ (k : Int) → (k : Int) < 6 * s 386 12 + 6 → g 397 k = s 397 k
theorem HSB_eq {s g h : zF} (a : HSB s g) (h8 : h 388 = g 388) (h9 : h 389 = g 389) (h6 : h 396 = g 396) (h7 : h 397 = g 397) : HSB s h := by
  unfold HSB
  rw [h8, h9, h6, h7]
  exact a
theorem HSB_hf {s g h : zF} (a : HSB s g) (k : g 386 35 = 1 - s 386 12) (b : HFS g h) : HSB s h := by
  obtain ⟨a1, a2, a3, a4⟩ := a
  obtain ⟨b1, b2, b3, b4⟩ := b
  exact ⟨fun q hq => (b1 q (by omega)).trans (a1 q hq), fun q h1 h2 => (b2 q (by omega)).trans (a2 q h1 h2), fun q hq => (b3 q (by omega)).trans (a3 q hq), fun q h1 h2 => (b4 q (by omega)).trans (a4 q h1 h2)⟩
/-- the reference's half in work, the one that stands -/
def BKR (s g : zF) : Prop := g 386 12 = s 386 12 ∧ g 386 35 = 1 - s 386 12 ∧ HSB s g
/-- what the reference's dorm() gives -/
def RFQ (t : zK) (e : Nat) (s : zF) (v : Int) (g : zF) : Prop := (∃ n d, prF t 91 ds0 0 = .inl (n, d) ∧ v = (n : Int) ∧ g 386 10 = 0 ∧ DIR t e g d ∧ g 386 12 = g 386 35) ∨ ∃ f, prF t 91 ds0 0 = .inr f ∧ v = -1 ∧ g 386 10 = f.1 ∧ g 386 11 = f.2 ∧ g 386 12 = s 386 12 ∧ HSB s g
