/-! a NUMBER read in place (readSlack), a LAW, a STATEMENT and its ; -/
section RDS
variable {s p q g g' : zF} {lo hi x : Int} {t : zK} {i : Nat}
theorem nm_a (E : EN s p) (h : p 4 (p 2 7).toNat ≠ 4) (X : (g 2 0, g 2 1) = ((1 : Int), if (1 : Int) = 1 ∧ p 4 (p 2 7).toNat = 1 then p 5 (p 2 7).toNat else p 6 (p 2 7).toNat)) : nNu (toks s) lo hi (p 2 7).toNat = .inr (g 2 0, g 2 1) := by
  rw [← E.1, nNu_0 (show (toks p).1 (p 2 7).toNat ≠ 4 from h), flt_q X]
theorem nm_b (E : EN s p) (h : p 4 (p 2 7).toNat = 4) (hq : q = zup p 2 10 x) (hx : p 5 (p 2 7).toNat < lo ∨ hi < p 5 (p 2 7).toNat) (X : (g 2 0, g 2 1) = ((4 : Int), if (4 : Int) = 1 ∧ q 4 (q 2 7).toNat = 1 then q 5 (q 2 7).toNat else q 6 (q 2 7).toNat)) : nNu (toks s) lo hi (p 2 7).toNat = .inr (g 2 0, g 2 1) := by
  rw [← E.1, nNu_4 (show (toks p).1 (p 2 7).toNat = 4 from h) hx, els_q (by decide) X]
  have e7 : q 2 7 = p 2 7 := by
    rw [hq]
    exact zup_ne (Or.inr (by decide))
  have e6 : q 6 = p 6 := by
    rw [hq]
    exact zup_na (by decide)
  rw [e7, e6]
  rfl
theorem nm_c (E : EN s p) (W : TW p) (h : p 4 (p 2 7).toNat = 4) (hq : q = zup p 2 10 x) (hx : ¬(p 5 (p 2 7).toNat < lo ∨ hi < p 5 (p 2 7).toNat)) (T : g = stp q) : nNu (toks s) lo hi (p 2 7).toNat = .inl (g 2 7).toNat ∧ TW g ∧ EN s g := by
  have e7 : q 2 7 = p 2 7 := by
    rw [hq]
    exact zup_ne (Or.inr (by decide))
  have E2 : EN p q := by
    rw [hq]
    exact EN_st2 (by decide)
  have W2 : TW q := TW_en W E2 e7
  have k4 : q 4 (q 2 7).toNat = 4 := by
    rw [e7, hq, zup_ne (Or.inl (by decide))]
    exact h
  obtain ⟨w1, w2, w3, w4⟩ := stp_ok W2 (by rw [k4]; decide) (by rw [k4]; decide) T
  refine ⟨?_, w1, EN_trans E (EN_trans E2 w4)⟩
  rw [← E.1, nNu_1 (show (toks p).1 (p 2 7).toNat = 4 from h) hx, w3, e7]
theorem spLaw_0 {f : Int × Int} (h : amFin t (i + 1, [(0, 0, true)], false) (.inr f)) : spLaw t i (.inr f) := ⟨_, h, rfl⟩
theorem spLaw_1 {f : Int × Int} {j : Nat} (h : amFin t (i + 1, [(0, 0, true)], false) (.inl j)) (hn : nOw t 20 j = .inr f) : spLaw t i (.inr f) := by
  refine ⟨_, h, ?_⟩
  show (match nOw t 20 j with
    | .inr f' => (.inr f : zP) = .inr f'
    | .inl k => amFin t (k, [(1, 0, true)], false) (.inr f))
  rw [hn]
theorem spLaw_2 {r : zP} {j k : Nat} (h : amFin t (i + 1, [(0, 0, true)], false) (.inl j)) (hn : nOw t 20 j = .inl k) (h2 : amFin t (k, [(1, 0, true)], false) r) : spLaw t i r := by
  refine ⟨_, h, ?_⟩
  show (match nOw t 20 j with
    | .inr f' => r = .inr f'
    | .inl k => amFin t (k, [(1, 0, true)], false) r)
  rw [hn]
  exact h2
theorem law_sum {v : Int} (R : RSp 0 s v g) : v = 1 ∧ amFin (toks s) ((s 2 7).toNat, [(0, 0, true)], false) (.inl (g 2 7).toNat) ∧ TW g ∨ v = 0 ∧ amFin (toks s) ((s 2 7).toNat, [(0, 0, true)], false) (.inr (g 2 0, g 2 1)) := by
  obtain ⟨r1, r2⟩ := R
  have r3 := r2 0 0 true [] rfl (by decide) frst_0
  rcases r3 with ⟨h1, h2, h3⟩ | ⟨h1, h2⟩
  · exact Or.inl ⟨h1, amTo_fin h2 (amFin_1 (am_done0 (r1 h1).2)), h3⟩
  · exact Or.inr ⟨h1, h2⟩
theorem law_test {v : Int} (R : RTp 0 s v g) : v = 1 ∧ amFin (toks s) ((s 2 7).toNat, [(1, 0, true)], false) (.inl (g 2 7).toNat) ∧ TW g ∨ v = 0 ∧ amFin (toks s) ((s 2 7).toNat, [(1, 0, true)], false) (.inr (g 2 0, g 2 1)) := by
  obtain ⟨r1, r2⟩ := R
  obtain ⟨ph, p1, r3⟩ := r2 1 [] (by decide) rfl
  rcases r3 with ⟨h1, h2, h3⟩ | ⟨h1, h2⟩
  · refine Or.inl ⟨h1, amTo_fin h2 (amFin_1 (am_done1 ?_ ?_ (r1 h1).2)), h3⟩
    · rcases p1 with ⟨z, -⟩ | z
      · exact Or.inl z
      · exact Or.inr z
    · intro z
      rcases p1 with ⟨-, w⟩ | w
      · exact w h1
      · omega
  · exact Or.inr ⟨h1, h2⟩
/-- what a STATEMENT's method did -/
def STO (t : zK) (b : Nat) (g : zF) (v : Int) (g' : zF) : Prop := ∀ d, DIC t g b d → PO (stF t d (g 2 7).toNat) v g' ∧ (v = 1 → DIC t g' b (stD t d (g 2 7).toNat))
theorem STO_boy {b : Nat} {v : Int} (e8 : (b : Int) = g 2 8) (ht : toks g = t) (h7 : tokI t (g 2 7).toNat = 7) (h : ∃ b : Nat, (b : Int) = g 2 8 ∧ (12 ≤ g b 1 ∧ v = 0 ∧ (g' 2 0, g' 2 1) = (5, g 6 (g 2 7).toNat) ∨ g b 1 < 12 ∧ PO (spBoy (toks g) (tknB g b) (g 2 7).toNat) v g' ∧ (v = 1 → NEWN g g' b 1 1 (g 2 7).toNat))) (n2 : g' b 2 = g b 2) (n7 : g' (b + 7) = g (b + 7)) (n13 : g' (b + 13) 0 = g (b + 13) 0) : STO t b g v g' := by
  intro d hd
  obtain ⟨b', e, h⟩ := h
  have eb : b' = b := by omega
  subst eb
  have hd0 := hd
  obtain ⟨d1, d2, d3⟩ := hd0
  have l1 := d1.1
  rcases h with ⟨a1, a2, a3⟩ | ⟨a1, a2, a3⟩
  · refine ⟨Or.inr ⟨a2, ?_⟩, fun z => by omega⟩
    rw [stF_7f h7 (by omega), a3, ← ht]
    rfl
  · refine ⟨?_, fun z => ?_⟩
    · rw [stF_7 h7 (by omega), ← tknB_L d1 d2, ← ht]
      exact a2
    · obtain ⟨b1, b2, b3⟩ := a3 z
      rw [stD_7 h7]
      refine ⟨NLs_s d1 b1 ?_ b3, ?_, ?_⟩
      · rw [b2, ← ht]
        rfl
      · rw [n2, n7]
        exact d2
      · rw [n13]
        exact d3
theorem STO_dream {b : Nat} {v : Int} (e8 : (b : Int) = g 2 8) (ht : toks g = t) (h14 : tokI t (g 2 7).toNat = 14) (h : ∃ b : Nat, (b : Int) = g 2 8 ∧ (6 ≤ g b 2 ∧ v = 0 ∧ (g' 2 0, g' 2 1) = (5, g 6 (g 2 7).toNat) ∨ g b 2 < 6 ∧ PO (spDream (toks g) (tknB g b) (g 2 7).toNat) v g' ∧ (v = 1 → NEWN g g' b 2 7 (g 2 7).toNat))) (n1 : g' b 1 = g b 1) (nn : g' (b + 1) = g (b + 1)) (n13 : g' (b + 13) 0 = g (b + 13) 0) : STO t b g v g' := by
  intro d hd
  obtain ⟨b', e, h⟩ := h
  have eb : b' = b := by omega
  subst eb
  have hd0 := hd
  obtain ⟨d1, d2, d3⟩ := hd0
  have l1 := d2.1
  rcases h with ⟨a1, a2, a3⟩ | ⟨a1, a2, a3⟩
  · refine ⟨Or.inr ⟨a2, ?_⟩, fun z => by omega⟩
    rw [stF_14f h14 (by omega), a3, ← ht]
    rfl
  · refine ⟨?_, fun z => ?_⟩
    · rw [stF_14 h14 (by omega), ← tknB_L d1 d2, ← ht]
      exact a2
    · obtain ⟨b1, b2, b3⟩ := a3 z
      rw [stD_14 h14]
      refine ⟨?_, NLs_s d2 b1 ?_ b3, ?_⟩
      · rw [n1, nn]
        exact d1
      · rw [b2, ← ht]
        rfl
      · rw [n13]
        exact d3
theorem STO_slack {b : Nat} {v : Int} (ht : toks g = t) (h12 : tokI t (g 2 7).toNat = 12) (h : PO (spSlack (toks g) (g 2 7).toNat) v g') (n1 : g' b = g b) (nn : g' (b + 1) = g (b + 1)) (n7 : g' (b + 7) = g (b + 7)) (n13 : g' (b + 13) 0 = g (b + 13) 0) : STO t b g v g' := by
  intro d hd
  obtain ⟨d1, d2, d3⟩ := hd
  refine ⟨?_, fun _ => ?_⟩
  · rw [stF_12 h12, ← ht]
    exact h
  · rw [stD_12 h12]
    refine ⟨?_, ?_, ?_⟩
    · rw [n1, nn]
      exact d1
    · rw [n1, n7]
      exact d2
    · rw [n13]
      exact d3
theorem STO_law {b : Nat} {v : Int} (e8 : (b : Int) = g 2 8) (ht : toks g = t) (h18 : tokI t (g 2 7).toNat = 18 ∨ tokI t (g 2 7).toNat = 19) (h : ∃ b : Nat, (b : Int) = g 2 8 ∧ (8 ≤ g (b + 13) 0 ∧ v = 0 ∧ (g' 2 0, g' 2 1) = (5, g 6 (g 2 7).toNat) ∨ g (b + 13) 0 < 8 ∧ (∃ r, spLaw (toks g) (g 2 7).toNat r ∧ PO r v g') ∧ (v = 1 → g' (b + 13) 0 = g (b + 13) 0 + 1))) (n1 : g' b = g b) (nn : g' (b + 1) = g (b + 1)) (n7 : g' (b + 7) = g (b + 7)) : STO t b g v g' := by
  intro d hd
  obtain ⟨b', e, h⟩ := h
  have eb : b' = b := by omega
  subst eb
  obtain ⟨d1, d2, d3⟩ := hd
  rcases h with ⟨a1, a2, a3⟩ | ⟨a1, ⟨r, a2, a4⟩, a3⟩
  · refine ⟨Or.inr ⟨a2, ?_⟩, fun z => by omega⟩
    rw [stF_18f h18 (by omega), a3, ← ht]
    rfl
  · refine ⟨?_, fun z => ?_⟩
    · rw [stF_18 h18 (by omega), ← ht, lawF_eq a2]
      exact a4
    · rw [stD_18 h18]
      refine ⟨?_, ?_, ?_⟩
      · rw [n1, nn]
        exact d1
      · rw [n1, n7]
        exact d2
      · rw [a3 z, d3]
        show ((dL d).length : Int) + 1 = (((dL d) ++ [(g 2 7).toNat]).length : Int)
        rw [List.length_append, List.length_singleton]
        omega
section RDL
variable {b e : Nat} {k v w : Int} {g2 g3 : zF} {T : Nat → Int} {L : Nat} {P : Nat → Nat}
theorem rd_fail (tk : Toks T L t.1 t.2.1 t.2.2 P e) (h : RDI t b k g) (hk : k ≠ 90) (h0 : g 4 (g 2 7).toNat ≠ 0) (st : STO t b g v g') (hv : v = 0) : RDQ T L b 0 g' := by
  refine RDI_flt tk h hk h0 (fun d hd => ?_)
  have q := PO_0 (st d hd).1 hv
  rw [q]
  rfl
theorem rd_none (tk : Toks T L t.1 t.2.1 t.2.2 P e) (h : RDI t b k g) (hk : k ≠ 90) (h0 : g 4 (g 2 7).toNat ≠ 0) (h7 : tokI t (g 2 7).toNat ≠ 7) (h12 : tokI t (g 2 7).toNat ≠ 12) (h14 : tokI t (g 2 7).toNat ≠ 14) (h18 : tokI t (g 2 7).toNat ≠ 18) (h19 : tokI t (g 2 7).toNat ≠ 19) (X : (g' 2 0, g' 2 1) = ((1 : Int), if (1 : Int) = 1 ∧ g 4 (g 2 7).toNat = 1 then g 5 (g 2 7).toNat else g 6 (g 2 7).toNat)) : RDQ T L b 0 g' := by
  refine RDI_flt tk h hk h0 (fun d hd => ?_)
  rw [stF_x h7 h12 h14 h18 h19, flt_q X, h.1]
  rfl
theorem rd_nosc (tk : Toks T L t.1 t.2.1 t.2.2 P e) (h : RDI t b k g) (hk : k ≠ 90) (h0 : g 4 (g 2 7).toNat ≠ 0) (st : STO t b g v g') (hv : ¬ v = 0) (en : EN g g') (sg : w = 1 ∧ isSg (toks g') 59 (g' 2 7).toNat ∨ w = 0 ∧ ¬ isSg (toks g') 59 (g' 2 7).toNat) (hw : w = 0) (X : (g2 2 0, g2 2 1) = ((1 : Int), if (1 : Int) = 1 ∧ g' 4 (g' 2 7).toNat = 1 then g' 5 (g' 2 7).toNat else g' 6 (g' 2 7).toNat)) : RDQ T L b 0 g2 := by
  refine RDI_flt tk h hk h0 (fun d hd => ?_)
  obtain ⟨q, -⟩ := PO_1 (st d hd).1 hv
  have e1 : toks g' = t := en.1.trans h.1
  rw [q, flt_q X, e1]
  refine nSc_0 ?_
  rcases sg with ⟨z, -⟩ | ⟨-, z⟩
  · omega
  · rw [e1] at z
    cases y : sgB t 59 (g' 2 7).toNat with
    | false => rfl
    | true => exact absurd (sgB_iff.mp y) z
theorem rd_next (h : RDI t b k g) (hk : k ≠ 90) (h0 : g 4 (g 2 7).toNat ≠ 0) (st : STO t b g v g') (hv : ¬ v = 0) (hv1 : v ≤ 1) (hv0 : 0 ≤ v) (en : EN g g') (e8 : g' 2 8 = g 2 8) (sg : w = 1 ∧ isSg (toks g') 59 (g' 2 7).toNat ∨ w = 0 ∧ ¬ isSg (toks g') 59 (g' 2 7).toNat) (hw : ¬ w = 0) (hb : 3 ≤ b) (q : g2 = stp g') {k' : Int} (hk' : k' = k + 1) : RDI t b k' g2 := by
  have e1 : toks g' = t := en.1.trans h.1
  have s1 : sgB t 59 (g' 2 7).toNat = true := by
    rcases sg with ⟨-, z⟩ | ⟨z, -⟩
    · rw [e1] at z
      exact sgB_iff.mpr z
    · omega
  have k5 : g' 4 (g' 2 7).toNat = 5 := by
    have := (sgB_iff.mp s1).1
    rw [← e1] at this
    exact this
  have h' := h
  obtain ⟨h1, h2, h3, h4, h5, h6, d0, h7, h8⟩ := h'
  have tw := (PO_1 (st d0 h8).1 hv).2
  obtain ⟨w1, w2, w3, w4⟩ := stp_ok tw (by rw [k5]; decide) (by rw [k5]; decide) q
  refine RDI_s h hk h0 (EN_trans en w4) w1 ((stp_28 q).trans e8) hk' (fun d hd => ?_)
  obtain ⟨s2, s3⟩ := st d hd
  have s4 := s3 (by omega)
  rw [(PO_1 s2 hv).1]
  refine ⟨(nSc_1 s1).trans (by rw [w3]), ?_⟩
  unfold DIC
  rw [stp_na q (show b ≠ 2 by omega), stp_na q (show b + 1 ≠ 2 by omega), stp_na q (show b + 7 ≠ 2 by omega), stp_na q (show b + 13 ≠ 2 by omega)]
  exact s4
theorem rd_start {g0 : zF} (hT : TW g0) (ow : OWS g0) (e8 : g0 2 8 = (b : Int)) (e7 : g0 2 7 = 0) (d1 : g0 b 1 = 0) (d2 : g0 b 2 = 0) (d3 : g0 (b + 13) 0 = 0) : RDI (toks g0) b 0 g0 := by
  refine ⟨rfl, ow, hT, e8, by decide, by decide, ds0, ?_, NLs_0 d1, NLs_0 d2, d3⟩
  rw [e7]
  rfl
end RDL
end RDS
theorem toks_ge {T : Nat → Int} {L : Nat} {K V S : Nat → Int} {P : Nat → Nat} {c : Nat} (h : TkC T L K V S P c) : ∀ i, i ≤ c → i ≤ P i := by
  obtain ⟨h0, h1, h2⟩ := h
  intro i
  induction i with
  | zero => intro _; omega
  | succ i ih =>
    intro hi
    have p := ih (by omega)
    obtain ⟨a, a1, a2, a3, a4, a5⟩ := h1 i (by omega)
    obtain ⟨k0, k1⟩ := h2 i (by omega)
    rcases a5 with ⟨-, z, -⟩ | ⟨-, -, -, -, z⟩ | ⟨-, -, z, -⟩ | ⟨-, -, -, z, -⟩ | ⟨-, r, -, z, -⟩ | ⟨-, r, -, -, -, z, -⟩
    · exact absurd z k0
    · omega
    · exact absurd z k1
    · exact absurd z k1
    · omega
    · exact absurd z k1
theorem toks_le {T : Nat → Int} {L : Nat} {K V S : Nat → Int} {P : Nat → Nat} {e : Nat} (h : Toks T L K V S P e) : e ≤ L := by
  obtain ⟨h0, ⟨a, a1, a2, -⟩, -⟩ := h
  have := toks_ge h0 e (Nat.le_refl _)
  omega
theorem TW_scan {T : Nat → Int} {L : Nat} {g : zF} (h : SCAN T L g) (hl : L ≤ 1600) (e7 : g 2 7 = 0) : TW g := by
  obtain ⟨e, P, h1, h2⟩ := h
  have h3 := toks_le h2
  obtain ⟨-, -, h4⟩ := h2
  refine ⟨by omega, by omega, by omega, ?_⟩
  rw [h1, show ((e : Int) + 1 - 1).toNat = e by omega]
  exact h4
/-- the Dorm made empty -/
def EMP (t : Nat) (s g : zF) : Prop := g t 1 = 0 ∧ g t 2 = 0 ∧ g (t + 13) 0 = 0
