/-! the whole text, STATEMENT by STATEMENT -/
abbrev zDS : Type := List Nat × List Nat × List Nat × List Nat
abbrev dB (d : zDS) : List Nat := d.1
abbrev dD (d : zDS) : List Nat := d.2.1
abbrev dS (d : zDS) : List Nat := d.2.2.1
abbrev dL (d : zDS) : List Nat := d.2.2.2
def ds0 : zDS := ([], [], [], [])
/-- n names, as the tokens behind the places B tell them -/
def NLs (t : zK) (n : Int) (f : Nat → Int) (B : List Nat) : Prop := n = (B.length : Int) ∧ ∀ k : Nat, k < B.length → f k = t.2.1 (B.getD k 0 + 1)
def tkL (t : zK) (d : zDS) (x : Int) : Bool := ((dB d).any fun p => t.2.1 (p + 1) == x) || ((dD d).any fun p => t.2.1 (p + 1) == x)
theorem any_L {t : zK} {n : Int} {f : Nat → Int} {B : List Nat} (h : NLs t n f B) (x : Int) : ((List.range n.toNat).any fun k => f k == x) = (B.any fun p => t.2.1 (p + 1) == x) := by
  obtain ⟨h1, h2⟩ := h
  rw [Bool.eq_iff_iff, List.any_eq_true, List.any_eq_true]
  constructor
  · intro ⟨k, hk, e⟩
    rw [List.mem_range] at hk
    have hk2 : k < B.length := by omega
    rw [h2 k hk2] at e
    refine ⟨B.getD k 0, ?_, e⟩
    rw [List.getD_eq_getElem?_getD, List.getElem?_eq_getElem hk2]
    exact List.getElem_mem hk2
  · intro ⟨p, hp, e⟩
    obtain ⟨k, hk⟩ := List.mem_iff_getElem?.mp hp
    have hl : k < B.length := (List.getElem?_eq_some_iff.mp hk).1
    refine ⟨k, List.mem_range.mpr (by omega), ?_⟩
    rw [h2 k hl, List.getD_eq_getElem?_getD, hk]
    exact e
theorem tknB_L {t : zK} {s : zF} {b : Nat} {d : zDS} (h1 : NLs t (s b 1) (s (b + 1)) (dB d)) (h2 : NLs t (s b 2) (s (b + 7)) (dD d)) : tknB s b = tkL t d := by
  funext x
  unfold tknB tkL
  rw [any_L h1, any_L h2]
theorem NLs_0 {t : zK} {f : Nat → Int} {n : Int} (h : n = 0) : NLs t n f [] := ⟨h, fun k hk => absurd hk (by simp)⟩
theorem NLs_s {t : zK} {n m : Int} {f g : Nat → Int} {B : List Nat} {i : Nat} (h : NLs t n f B) (hm : m = n + 1) (hx : g n.toNat = t.2.1 (i + 1)) (ho : ∀ k, k ≠ n.toNat → g k = f k) : NLs t m g (B ++ [i]) := by
  obtain ⟨h1, h2⟩ := h
  refine ⟨by simp; omega, fun k hk => ?_⟩
  rw [List.length_append, List.length_singleton] at hk
  by_cases z : k = n.toNat
  · have e : B.length = k := by omega
    rw [z, hx, ← z, List.getD_eq_getElem?_getD, List.getElem?_append_right (by omega), e, Nat.sub_self]
    rfl
  · rw [ho k z, h2 k (by omega), List.getD_eq_getElem?_getD, List.getD_eq_getElem?_getD, List.getElem?_append_left (by omega)]
noncomputable def lawF (t : zK) (i : Nat) : zP := @dite zP (∃ r, spLaw t i r) (Classical.propDecidable _) (fun h => h.choose) (fun _ => .inr (0, 0))
theorem lawF_eq {t : zK} {i : Nat} {r : zP} (h : spLaw t i r) : lawF t i = r := by
  have e : ∃ r, spLaw t i r := ⟨r, h⟩
  unfold lawF
  rw [dif_pos e]
  exact spLaw_eq e.choose_spec h
noncomputable def stF (t : zK) (d : zDS) (i : Nat) : zP :=
  if tokI t i = 7 then (if 12 ≤ (dB d).length then .inr (5, t.2.2 i) else spBoy t (tkL t d) i)
  else if tokI t i = 12 then spSlack t i
  else if tokI t i = 14 then (if 6 ≤ (dD d).length then .inr (5, t.2.2 i) else spDream t (tkL t d) i)
  else if tokI t i = 18 ∨ tokI t i = 19 then (if 8 ≤ (dL d).length then .inr (5, t.2.2 i) else lawF t i)
  else .inr (flt t i)
def stD (t : zK) (d : zDS) (i : Nat) : zDS :=
  if tokI t i = 7 then ((dB d ++ [i], dD d, dS d, dL d) : zDS)
  else if tokI t i = 12 then ((dB d, dD d, dS d ++ [i], dL d) : zDS)
  else if tokI t i = 14 then ((dB d, dD d ++ [i], dS d, dL d) : zDS)
  else ((dB d, dD d, dS d, dL d ++ [i]) : zDS)
def nSc (t : zK) (i : Nat) : zP := if sgB t 59 i = true then .inl (i + 1) else .inr (flt t i)
abbrev zTR : Type := (Nat × zDS) ⊕ (Int × Int)
/-- so many STATEMENTS may still be told, and one -/
noncomputable def prF (t : zK) : Nat → zDS → Nat → zTR
  | 0, _, _ => .inr (0, 0)
  | n + 1, d, i => if t.1 i = 0 then .inl (90 - n, d) else if n = 0 then .inr (5, t.2.2 i) else match zbd (stF t d i) (nSc t) with
    | .inl j => prF t n (stD t d i) j
    | .inr f => .inr f
theorem prF_end {t : zK} {n i : Nat} {d : zDS} (h : t.1 i = 0) : prF t (n + 1) d i = .inl (90 - n, d) := by
  rw [prF, if_pos h]
theorem prF_full {t : zK} {i : Nat} {d : zDS} (h : t.1 i ≠ 0) : prF t 1 d i = .inr (5, t.2.2 i) := by
  rw [prF, if_neg h, if_pos rfl]
theorem prF_s {t : zK} {n i j : Nat} {d : zDS} (h : t.1 i ≠ 0) (hn : n ≠ 0) (hs : zbd (stF t d i) (nSc t) = .inl j) : prF t (n + 1) d i = prF t n (stD t d i) j := by
  rw [prF, if_neg h, if_neg hn, hs]
theorem prF_f {t : zK} {n i : Nat} {d : zDS} {f : Int × Int} (h : t.1 i ≠ 0) (hn : n ≠ 0) (hs : zbd (stF t d i) (nSc t) = .inr f) : prF t (n + 1) d i = .inr f := by
  rw [prF, if_neg h, if_neg hn, hs]
theorem stF_7 {t : zK} {d : zDS} {i : Nat} (h : tokI t i = 7) (hl : ¬ 12 ≤ (dB d).length) : stF t d i = spBoy t (tkL t d) i := by
  unfold stF
  rw [if_pos h, if_neg hl]
theorem stF_7f {t : zK} {d : zDS} {i : Nat} (h : tokI t i = 7) (hl : 12 ≤ (dB d).length) : stF t d i = .inr (5, t.2.2 i) := by
  unfold stF
  rw [if_pos h, if_pos hl]
theorem stF_12 {t : zK} {d : zDS} {i : Nat} (h : tokI t i = 12) : stF t d i = spSlack t i := by
  unfold stF
  rw [if_neg (by omega), if_pos h]
theorem stF_14 {t : zK} {d : zDS} {i : Nat} (h : tokI t i = 14) (hl : ¬ 6 ≤ (dD d).length) : stF t d i = spDream t (tkL t d) i := by
  unfold stF
  rw [if_neg (by omega), if_neg (by omega), if_pos h, if_neg hl]
theorem stF_14f {t : zK} {d : zDS} {i : Nat} (h : tokI t i = 14) (hl : 6 ≤ (dD d).length) : stF t d i = .inr (5, t.2.2 i) := by
  unfold stF
  rw [if_neg (by omega), if_neg (by omega), if_pos h, if_pos hl]
theorem stF_18 {t : zK} {d : zDS} {i : Nat} (h : tokI t i = 18 ∨ tokI t i = 19) (hl : ¬ 8 ≤ (dL d).length) : stF t d i = lawF t i := by
  unfold stF
  rw [if_neg (by omega), if_neg (by omega), if_neg (by omega), if_pos h, if_neg hl]
theorem stF_18f {t : zK} {d : zDS} {i : Nat} (h : tokI t i = 18 ∨ tokI t i = 19) (hl : 8 ≤ (dL d).length) : stF t d i = .inr (5, t.2.2 i) := by
  unfold stF
  rw [if_neg (by omega), if_neg (by omega), if_neg (by omega), if_pos h, if_pos hl]
theorem stF_x {t : zK} {d : zDS} {i : Nat} (h7 : tokI t i ≠ 7) (h12 : tokI t i ≠ 12) (h14 : tokI t i ≠ 14) (h18 : tokI t i ≠ 18) (h19 : tokI t i ≠ 19) : stF t d i = .inr (flt t i) := by
  unfold stF
  rw [if_neg h7, if_neg h12, if_neg h14, if_neg (by omega)]
theorem stD_7 {t : zK} {d : zDS} {i : Nat} (h : tokI t i = 7) : stD t d i = ((dB d ++ [i], dD d, dS d, dL d) : zDS) := if_pos h
theorem stD_12 {t : zK} {d : zDS} {i : Nat} (h : tokI t i = 12) : stD t d i = ((dB d, dD d, dS d ++ [i], dL d) : zDS) := by
  unfold stD
  rw [if_neg (by omega), if_pos h]
theorem stD_14 {t : zK} {d : zDS} {i : Nat} (h : tokI t i = 14) : stD t d i = ((dB d, dD d ++ [i], dS d, dL d) : zDS) := by
  unfold stD
  rw [if_neg (by omega), if_neg (by omega), if_pos h]
theorem stD_18 {t : zK} {d : zDS} {i : Nat} (h : tokI t i = 18 ∨ tokI t i = 19) : stD t d i = ((dB d, dD d, dS d, dL d ++ [i]) : zDS) := by
  unfold stD
  rw [if_neg (by omega), if_neg (by omega), if_neg (by omega)]
theorem nSc_1 {t : zK} {i : Nat} (h : sgB t 59 i = true) : nSc t i = .inl (i + 1) := if_pos h
theorem nSc_0 {t : zK} {i : Nat} (h : sgB t 59 i = false) : nSc t i = .inr (flt t i) := if_neg (by rw [h]; decide)
/-! the class's Dorm while the text is read -/
def DIC (t : zK) (s : zF) (b : Nat) (d : zDS) : Prop := NLs t (s b 1) (s (b + 1)) (dB d) ∧ NLs t (s b 2) (s (b + 7)) (dD d) ∧ s (b + 13) 0 = ((dL d).length : Int)
/-- what the Reader's read() gave -/
def RDQ (T : Nat → Int) (L : Nat) (b : Nat) (v : Int) (g : zF) : Prop := ∃ (t : zK) (P : Nat → Nat) (e : Nat), Toks T L t.1 t.2.1 t.2.2 P e ∧ (v = 1 ∧ (∃ n d, prF t 91 ds0 0 = .inl (n, d) ∧ g b 0 = (n : Int) ∧ DIC t g b d) ∨ v = 0 ∧ prF t 91 ds0 0 = .inr (g 2 0, g 2 1))
/-- read() between two STATEMENTS -/
def RDI (t : zK) (b : Nat) (k : Int) (g : zF) : Prop := toks g = t ∧ OWS g ∧ TW g ∧ g 2 8 = (b : Int) ∧ 0 ≤ k ∧ k ≤ 90 ∧ ∃ d, prF t 91 ds0 0 = prF t ((90 - k).toNat + 1) d (g 2 7).toNat ∧ DIC t g b d
theorem RDI_end {t : zK} {b : Nat} {k : Int} {g g' : zF} {T : Nat → Int} {L : Nat} {P : Nat → Nat} {e : Nat} (tk : Toks T L t.1 t.2.1 t.2.2 P e) (hb : b = 7 ∨ b = 28) (h : RDI t b k g) (h0 : g 4 (g 2 7).toNat = 0) (q : g' = zup g b 0 k) : RDQ T L b 1 g' := by
  obtain ⟨h1, h2, h3, h4, h5, h6, d, h7, h8, h9, h10⟩ := h
  refine ⟨t, P, e, tk, Or.inl ⟨rfl, k.toNat, d, ?_, ?_, ?_, ?_, ?_⟩⟩
  · rw [h7, prF_end (by rw [← h1]; exact h0)]
    rw [show 90 - (90 - k).toNat = k.toNat by omega]
  · rw [q, zup_eq]
    omega
  · rw [q, zup_ne (Or.inr (by decide)), zup_na (by omega)]
    exact h8
  · rw [q, zup_ne (Or.inr (by decide)), zup_na (by omega)]
    exact h9
  · rw [q, zup_ne (Or.inl (by omega))]
    exact h10
theorem RDI_full {t : zK} {b : Nat} {g g' : zF} {T : Nat → Int} {L : Nat} {P : Nat → Nat} {e : Nat} (tk : Toks T L t.1 t.2.1 t.2.2 P e) (h : RDI t b 90 g) (h0 : g 4 (g 2 7).toNat ≠ 0) (q : (g' 2 0, g' 2 1) = ((5 : Int), g 6 (g 2 7).toNat)) : RDQ T L b 0 g' := by
  obtain ⟨h1, h2, h3, h4, h5, h6, d, h7, h8⟩ := h
  refine ⟨t, P, e, tk, Or.inr ⟨rfl, ?_⟩⟩
  rw [h7, q]
  rw [show (90 - (90 : Int)).toNat + 1 = 1 by decide, prF_full (by rw [← h1]; exact h0), ← h1]
  rfl
/-- a FAULT in a STATEMENT, or for want of ; -/
theorem RDI_flt {t : zK} {b : Nat} {k : Int} {g g' : zF} {T : Nat → Int} {L : Nat} {P : Nat → Nat} {e : Nat} (tk : Toks T L t.1 t.2.1 t.2.2 P e) (h : RDI t b k g) (hk : k ≠ 90) (h0 : g 4 (g 2 7).toNat ≠ 0) (hs : ∀ d, DIC t g b d → zbd (stF t d (g 2 7).toNat) (nSc t) = .inr (g' 2 0, g' 2 1)) : RDQ T L b 0 g' := by
  obtain ⟨h1, h2, h3, h4, h5, h6, d, h7, h8⟩ := h
  refine ⟨t, P, e, tk, Or.inr ⟨rfl, ?_⟩⟩
  rw [h7]
  exact prF_f (by rw [← h1]; exact h0) (by omega) (hs d h8)
theorem RDI_s {t : zK} {b : Nat} {k k' : Int} {g g' : zF} (h : RDI t b k g) (hk : k ≠ 90) (h0 : g 4 (g 2 7).toNat ≠ 0) (en : EN g g') (tw : TW g') (e8 : g' 2 8 = g 2 8) (hk' : k' = k + 1) (hs : ∀ d, DIC t g b d → zbd (stF t d (g 2 7).toNat) (nSc t) = .inl (g' 2 7).toNat ∧ DIC t g' b (stD t d (g 2 7).toNat)) : RDI t b k' g' := by
  obtain ⟨h1, h2, h3, h4, h5, h6, d, h7, h8⟩ := h
  obtain ⟨s1, s2⟩ := hs d h8
  refine ⟨en.1.trans h1, OWS_en h2 en, tw, e8.trans h4, by omega, by omega, stD t d (g 2 7).toNat, ?_, s2⟩
  rw [h7, prF_s (by rw [← h1]; exact h0) (by omega) s1]
  congr 1
  omega
