/-! partial proofs of the reference (wip/safe/vcp.py) -/
set_option maxHeartbeats 4000000 in
theorem w_2328 {T : Nat → Int} {L e : Nat} {t : zK} {P : Nat → Nat} {r : zP} {s0 : zF} (tk : Toks T L t.1 t.2.1 t.2.2 P e) (hT : s0 387 = T) (hL : s0 386 2 = (L : Int)) (hr : RSq t P e r s0) {a0 : Int} (h0 : a0 = 0 ∨ a0 = 1) : p_2328 s0 a0 (fun g => ∃ r', RSq t P e r' g ∧ RDS t a0 r r') := by
  refine ⟨fun g v43_2 => ∃ i0, r = .inl i0 ∧ RDL t P e (i0, [(a0, 0, true)], false) v43_2 g, ?_, ?_⟩
  · skip
    intro x43 ex43 o2 o3
    refine ⟨fun h4z => ?_, fun h4z => ?_⟩
    · skip
      cases r with
      | inr f => exact ⟨.inr f, hr, fun i z => (by cases z), fun f2 z => z.symm ▸ rfl⟩
      | inl i =>
        have hb := prt_bad hr.2 (by omega)
        refine ⟨.inr (flt t i), ⟨?_, ?_, ?_⟩, rds_bad hb.1⟩
        · rw [flt_bad hb.1]
          exact hb.2.1
        · rw [flt_bad hb.1]
          exact hb.2.2
        · rw [flt_bad hb.1]
          show (0 : Int) < 1
          decide
    · skip
      intro g52 eg52 g57 eg57 g62 eg62 g67 eg67
      refine ⟨fun h9z => ?_, fun h9z => ?_⟩
      · skip
        refine ⟨fun g' => g' 386 41 = (([] : List zFm).length : Int) + 1 ∧ FRS [((1 : Int), 0, true)] g', ?_, ?_⟩
        · skip
          exact w_2329 (fs := []) (by rw [eg67, zup_ne (Or.inr (by decide)), eg62, zup_ne (Or.inr (by decide)), eg57, zup_ne (Or.inr (by decide)), eg52, zup_eq]; rfl) trivial
        · skip
          intro g74 rg74 qg74
          obtain ⟨i, rfl, hi, A⟩ := rs_ok hr (by omega)
          obtain ⟨p1, p2⟩ : _ ∧ _ := qg74
          have ea : a0 = 1 := by omega
          have u42 : g74 386 42 = 0 := by rw [rg74.s (by decide), eg67, zup_ne (Or.inr (by decide)), eg62, zup_ne (Or.inr (by decide)), eg57, zup_eq]
          have u45 : g74 386 45 = 0 := by rw [rg74.s (by decide), eg67, zup_eq]
          have A5 : ATT t P i g74 := ATT_fr A fun k k1 k2 => by
            rw [rg74.s (by
              have hc : k = 3 ∨ k = 4 ∨ k = 5 ∨ k = 6 ∨ k = 7 ∨ k = 8 := by omega
              rcases hc with z | z | z | z | z | z <;> subst z <;> decide), eg67, zup_ne (Or.inr (by omega)), eg62, zup_ne (Or.inr (by omega)), eg57, zup_ne (Or.inr (by omega)), eg52, zup_ne (Or.inr (by omega))]
          refine ⟨i, rfl, Or.inl ⟨rfl, i, [(a0, 0, true)], false, amTo_refl, ⟨hi, Or.inl A5, ?_, ?_, ?_, by simp⟩, A5, u45⟩⟩
          · rw [p1]
            rfl
          · rw [u42]
            rfl
          · rw [ea]
            exact p2
      · skip
        refine ⟨fun g' => g' 386 41 = (([] : List zFm).length : Int) + 1 ∧ FRS [((0 : Int), 0, true)] g', ?_, ?_⟩
        · skip
          exact w_2329 (fs := []) (by rw [eg67, zup_ne (Or.inr (by decide)), eg62, zup_ne (Or.inr (by decide)), eg57, zup_ne (Or.inr (by decide)), eg52, zup_eq]; rfl) trivial
        · skip
          intro g81 rg81 qg81
          obtain ⟨i, rfl, hi, A⟩ := rs_ok hr (by omega)
          obtain ⟨p1, p2⟩ : _ ∧ _ := qg81
          have ea : a0 = 0 := by omega
          have u42 : g81 386 42 = 0 := by rw [rg81.s (by decide), eg67, zup_ne (Or.inr (by decide)), eg62, zup_ne (Or.inr (by decide)), eg57, zup_eq]
          have u45 : g81 386 45 = 0 := by rw [rg81.s (by decide), eg67, zup_eq]
          have A5 : ATT t P i g81 := ATT_fr A fun k k1 k2 => by
            rw [rg81.s (by
              have hc : k = 3 ∨ k = 4 ∨ k = 5 ∨ k = 6 ∨ k = 7 ∨ k = 8 := by omega
              rcases hc with z | z | z | z | z | z <;> subst z <;> decide), eg67, zup_ne (Or.inr (by omega)), eg62, zup_ne (Or.inr (by omega)), eg57, zup_ne (Or.inr (by omega)), eg52, zup_ne (Or.inr (by omega))]
          refine ⟨i, rfl, Or.inl ⟨rfl, i, [(a0, 0, true)], false, amTo_refl, ⟨hi, Or.inl A5, ?_, ?_, ?_, by simp⟩, A5, u45⟩⟩
          · rw [p1]
            rfl
          · rw [u42]
            rfl
          · rw [ea]
            exact p2
  · intro g v43_2 rg o1 o2 hI
    obtain ⟨i0, hri, hR⟩ := hI
    have BT : g 387 = T := (rg.a (by decide)).trans hT
    have BL : g 386 2 = (L : Int) := (rg.s (by decide)).trans hL
    refine ⟨fun h3z => ?_, fun h3z => ?_⟩
    · skip
      intro x2 ex2 o5 o6
      refine ⟨fun h7z => ?_, fun h7z => ?_⟩
      · skip
        rcases hR with ⟨hv, i, st, b, m1, M, A, o45⟩ | ⟨hv, -⟩
        rotate_left
        · exfalso
          omega
        have fb := b01 o45
        have hb : b = true := fb.2.2.2 (by omega)
        obtain ⟨⟨kd, ph, bg⟩, st9, hst⟩ : ∃ f st2, st = f :: st2 := by
          cases st with
          | nil => exact absurd rfl M.2.2.2.2.2
          | cons f st => exact ⟨f, st, rfl⟩
        subst hst
        rw [hb] at m1
        refine ⟨fun v g' => OPG t P e (i, (kd, ph, bg) :: st9, true) v g', ?_, ?_⟩
        · skip
          exact w_2336 tk BT BL A M (by rw [o45, hb]; rfl)
        · skip
          intro x12 o8 o9 g15 rg15 qg15
          refine ⟨fun h12z => ?_, fun h12z => ?_⟩
          · skip
            intro x18 ex18 o14 o15
            refine ⟨fun h16z => ?_, fun h16z => ?_⟩
            · skip
              have O : OPG t P e (i, (kd, ph, bg) :: st9, true) x12 g15 := qg15
              rcases O with ⟨z, j, st2, b2, s1, s2, s3⟩ | ⟨z, s⟩
              · exact ⟨i0, hri, RDL_step m1 s1 s2 s3 (by omega)⟩
              · exfalso
                omega
            · skip
              have O : OPG t P e (i, (kd, ph, bg) :: st9, true) x12 g15 := qg15
              rcases O with ⟨z, j, st2, b2, s1, s2, s3⟩ | ⟨z, s⟩
              · exact ⟨i0, hri, RDL_step m1 s1 s2 s3 (by omega)⟩
              · exfalso
                omega
          · skip
            have O : OPG t P e (i, (kd, ph, bg) :: st9, true) x12 g15 := qg15
            rcases O with ⟨z, j, st2, b2, s1, s2, s3⟩ | ⟨z, s⟩
            · exfalso
              omega
            · refine ⟨i0, hri, ?_⟩
              rcases s with ⟨f, s1, s2, s3, s4⟩ | ⟨j, s1, s2, s3⟩
              · exact RDL_flt m1 s1 s2 s3 s4
              · exact RDL_end m1 s1 s2 s3
      · skip
        rcases hR with ⟨hv, i, st, b, m1, M, A, o45⟩ | ⟨hv, -⟩
        rotate_left
        · exfalso
          omega
        have fb := b01 o45
        have hb : b = false := fb.2.2.1 (by omega)
        obtain ⟨⟨kd, ph, bg⟩, st9, hst⟩ : ∃ f st2, st = f :: st2 := by
          cases st with
          | nil => exact absurd rfl M.2.2.2.2.2
          | cons f st => exact ⟨f, st, rfl⟩
        subst hst
        rw [hb] at m1
        refine ⟨fun v g' => OPD t P e (i, (kd, ph, bg) :: st9, false) v g', ?_, ?_⟩
        · skip
          exact w_2330 tk BT BL A M
        · skip
          intro x28 o8 o9 g31 rg31 qg31 g37 eg37 x38 ex38 o14 o15
          refine ⟨fun h16z => ?_, fun h16z => ?_⟩
          · skip
            have O : OPD t P e (i, (kd, ph, bg) :: st9, false) x28 g31 := qg31
            rcases O with ⟨j, st2, b2, s1, s2, s3⟩ | ⟨f, s1, s2, s3, s4⟩
            · have s5 : AMR t P e j st2 g37 := by
                obtain ⟨y1, y2, y3, y4, y5, y6⟩ := s2
                rw [eg37]
                exact ⟨y1, PRT_fr y2 fun k k1 k2 => zup_ne (Or.inr (by omega)), by rw [zup_ne (Or.inr (by decide))]; exact y3, by rw [zup_ne (Or.inr (by decide))]; exact y4, FRS_o (by decide) y5, y6⟩
              have s6 : g37 386 45 = (if b2 = true then 1 else 0) := by
                rw [eg37, zup_eq]
                exact s3
              exact ⟨i0, hri, RDL_step m1 s1 s5 s6 (by omega)⟩
            · have w8 : g37 386 8 = g31 386 8 := by rw [eg37, zup_ne (Or.inr (by decide))]
              have w9 : g37 386 9 = g31 386 9 := by rw [eg37, zup_ne (Or.inr (by decide))]
              exact ⟨i0, hri, RDL_flt m1 s1 (w8.trans s2) (w9.trans s3) s4⟩
          · skip
            have O : OPD t P e (i, (kd, ph, bg) :: st9, false) x28 g31 := qg31
            rcases O with ⟨j, st2, b2, s1, s2, s3⟩ | ⟨f, s1, s2, s3, s4⟩
            · have s5 : AMR t P e j st2 g37 := by
                obtain ⟨y1, y2, y3, y4, y5, y6⟩ := s2
                rw [eg37]
                exact ⟨y1, PRT_fr y2 fun k k1 k2 => zup_ne (Or.inr (by omega)), by rw [zup_ne (Or.inr (by decide))]; exact y3, by rw [zup_ne (Or.inr (by decide))]; exact y4, FRS_o (by decide) y5, y6⟩
              have s6 : g37 386 45 = (if b2 = true then 1 else 0) := by
                rw [eg37, zup_eq]
                exact s3
              exact ⟨i0, hri, RDL_step m1 s1 s5 s6 (by omega)⟩
            · exfalso
              have := eg37
              have w8 : g37 386 8 = g31 386 8 := by rw [eg37, zup_ne (Or.inr (by decide))]
              omega
    · skip
      rcases hR with ⟨hv, -⟩ | ⟨-, r', q1, q2⟩
      · exfalso
        omega
      · refine ⟨r', q1, fun i z => ?_, fun f z => ?_⟩
        · rw [hri] at z
          cases z
          exact q2
        · rw [hri] at z
          cases z
set_option maxHeartbeats 4000000 in
theorem w_2327 {T : Nat → Int} {L e i : Nat} {t : zK} {P : Nat → Nat} {d : zDS} {s0 : zF} (tk : Toks T L t.1 t.2.1 t.2.2 P e) (hT : s0 387 = T) (hL : s0 386 2 = (L : Int)) (hi : i ≤ e) (A : ATT t P i s0) (hk : tokI t i = 18 ∨ tokI t i = 19) (D : DIR t e s0 d) {a0 : Int} (h0 : a0 = 0 ∨ a0 = 1) : p_2327 s0 a0 (fun g => (∃ r, RSq t P e r g ∧ zbd r (nSc t) = zbd (stF t d i) (nSc t)) ∧ (g 386 8 = 0 → DIR t e g (stD t d i)) ∧ HFS s0 g) := by
  have k2 : t.1 i = 2 := tokI_2 (by omega)
  have a8 := A.2.1
  have aa5 := A.2.2.2.1
  unfold p_2327
  intro x1 ex1 o2 o3 x8 ex8 o5 o6
  refine ⟨fun h7z => ?_, fun h7z => ?_⟩
  · skip
    intro x10 ex10 o9 o10
    refine ⟨fun h11z => ?_, fun h11z => ?_⟩
    · skip
      exfalso
      omega
    · skip
      refine ⟨fun g' => AH (s0 387) (s0 386 2).toNat (s0 386 5).toNat g', ?_, ?_⟩
      · skip
        exact w_2310 (by omega) (by omega) (by omega)
      · skip
        intro g20 rg20 qg20 x22 ex22 o15 o16
        refine ⟨fun h17z => ?_, fun h17z => ?_⟩
        · skip
          obtain ⟨w, hw, h35, n1, n2, n3⟩ := D
          have ew : x1.toNat = w := by omega
          have e8 : x8 = ((dL d).length : Int) := by
            rw [ex8, ew]
            exact n3
          have T0 : s0 387 = T := hT
          have L0 : s0 386 2 = (L : Int) := hL
          have T1 : g20 387 = T := (rg20.a (by decide)).trans T0
          have L1 : g20 386 2 = (L : Int) := (rg20.s (by decide)).trans L0
          have ha : AH T L (s0 386 5).toNat g20 := by
            have q : AH (s0 387) (s0 386 2).toNat (s0 386 5).toNat g20 := qg20
            rw [hT, hL] at q
            exact q
          have R1 : RSq t P e (.inl (i + 1)) g20 := rs_next (F := fun k => .inl (k + 1)) tk A hi (by omega) (by omega) rfl ha
          obtain ⟨p1, p2⟩ := R1
          rcases p2 with p2 | ⟨p2, p3, p4⟩
          · have := p2.2.1
            omega
          refine ⟨⟨.inr (flt t (i + 1)), ⟨?_, ?_, ?_⟩, ?_⟩, fun z => absurd z (by omega), ⟨fun k hk => by rw [rg20.a (a := 388) (by decide)], fun k hk => by rw [rg20.a (a := 389) (by decide)], fun k hk => by rw [rg20.a (a := 396) (by decide)], fun k hk => by rw [rg20.a (a := 397) (by decide)]⟩⟩
          · rw [p3, flt_bad p2]
          · rw [p4, flt_bad p2]
          · rw [flt_bad p2]
            show (0 : Int) < 1
            decide
          · rw [stF_18 hk (by omega), lawF_eq (spLaw_0 (am_badF p2))]
        · skip
          intro x28 ex28 x34 ex34 o20 g41 eg41 x42 ex42 o23 o24 g50 eg50
          refine ⟨fun g' => ∃ r', RSq t P e r' g' ∧ RDS t 0 (.inl (i + 1)) r', ?_, ?_⟩
          · skip
            have T0 : s0 387 = T := hT
            have L0 : s0 386 2 = (L : Int) := hL
            have T1 : g20 387 = T := (rg20.a (by decide)).trans T0
            have L1 : g20 386 2 = (L : Int) := (rg20.s (by decide)).trans L0
            have ha : AH T L (s0 386 5).toNat g20 := by
              have q : AH (s0 387) (s0 386 2).toNat (s0 386 5).toNat g20 := qg20
              rw [hT, hL] at q
              exact q
            have R1 : RSq t P e (.inl (i + 1)) g20 := rs_next (F := fun k => .inl (k + 1)) tk A hi (by omega) (by omega) rfl ha
            have T2 : g41 387 = T := by rw [eg41, zup_na (by decide), T1]
            have L2 : g41 386 2 = (L : Int) := by rw [eg41, zup_ne (Or.inl (by decide)), L1]
            have R2 : RSq t P e (.inl (i + 1)) g41 := by
              rw [eg41]
              exact RSq_st R1 (by decide)
            have T3 : g50 387 = T := by rw [eg50, zup_na (by decide), T2]
            have L3 : g50 386 2 = (L : Int) := by rw [eg50, zup_ne (Or.inl (by decide)), L2]
            have R3 : RSq t P e (.inl (i + 1)) g50 := by
              rw [eg50]
              exact RSq_st R2 (by decide)
            exact w_2328 tk T3 L3 R3 (by decide)
          · skip
            intro g56 rg56 qg56 x58 ex58 o29 o30 g66 eg66
            obtain ⟨r2, R_2, m2⟩ := qg56
            refine ⟨fun g' => RSq t P e (zbd (r2) (nOw t 20)) g', ?_, ?_⟩
            · skip
              have T0 : s0 387 = T := hT
              have L0 : s0 386 2 = (L : Int) := hL
              have T1 : g20 387 = T := (rg20.a (by decide)).trans T0
              have L1 : g20 386 2 = (L : Int) := (rg20.s (by decide)).trans L0
              have ha : AH T L (s0 386 5).toNat g20 := by
                have q : AH (s0 387) (s0 386 2).toNat (s0 386 5).toNat g20 := qg20
                rw [hT, hL] at q
                exact q
              have R1 : RSq t P e (.inl (i + 1)) g20 := rs_next (F := fun k => .inl (k + 1)) tk A hi (by omega) (by omega) rfl ha
              have T2 : g41 387 = T := by rw [eg41, zup_na (by decide), T1]
              have L2 : g41 386 2 = (L : Int) := by rw [eg41, zup_ne (Or.inl (by decide)), L1]
              have R2 : RSq t P e (.inl (i + 1)) g41 := by
                rw [eg41]
                exact RSq_st R1 (by decide)
              have T3 : g50 387 = T := by rw [eg50, zup_na (by decide), T2]
              have L3 : g50 386 2 = (L : Int) := by rw [eg50, zup_ne (Or.inl (by decide)), L2]
              have R3 : RSq t P e (.inl (i + 1)) g50 := by
                rw [eg50]
                exact RSq_st R2 (by decide)
              have T4 : g56 387 = T := (rg56.a (by decide)).trans T3
              have L4 : g56 386 2 = (L : Int) := (rg56.s (by decide)).trans L3
              have RD2 := m2
              have R4 : RSq t P e r2 g56 := R_2
              have T5 : g66 387 = T := by rw [eg66, zup_na (by decide), T4]
              have L5 : g66 386 2 = (L : Int) := by rw [eg66, zup_ne (Or.inl (by decide)), L4]
              have R5 : RSq t P e (r2) g66 := by
                rw [eg66]
                exact RSq_st R4 (by decide)
              exact w_2321 (w := 20) tk T5 L5 R5 (OW_w (by decide) rfl)
            · skip
              intro g72 rg72 qg72
              refine ⟨fun g' => ∃ r', RSq t P e r' g' ∧ RDS t 1 (zbd (r2) (nOw t 20)) r', ?_, ?_⟩
              · skip
                have T0 : s0 387 = T := hT
                have L0 : s0 386 2 = (L : Int) := hL
                have T1 : g20 387 = T := (rg20.a (by decide)).trans T0
                have L1 : g20 386 2 = (L : Int) := (rg20.s (by decide)).trans L0
                have ha : AH T L (s0 386 5).toNat g20 := by
                  have q : AH (s0 387) (s0 386 2).toNat (s0 386 5).toNat g20 := qg20
                  rw [hT, hL] at q
                  exact q
                have R1 : RSq t P e (.inl (i + 1)) g20 := rs_next (F := fun k => .inl (k + 1)) tk A hi (by omega) (by omega) rfl ha
                have T2 : g41 387 = T := by rw [eg41, zup_na (by decide), T1]
                have L2 : g41 386 2 = (L : Int) := by rw [eg41, zup_ne (Or.inl (by decide)), L1]
                have R2 : RSq t P e (.inl (i + 1)) g41 := by
                  rw [eg41]
                  exact RSq_st R1 (by decide)
                have T3 : g50 387 = T := by rw [eg50, zup_na (by decide), T2]
                have L3 : g50 386 2 = (L : Int) := by rw [eg50, zup_ne (Or.inl (by decide)), L2]
                have R3 : RSq t P e (.inl (i + 1)) g50 := by
                  rw [eg50]
                  exact RSq_st R2 (by decide)
                have T4 : g56 387 = T := (rg56.a (by decide)).trans T3
                have L4 : g56 386 2 = (L : Int) := (rg56.s (by decide)).trans L3
                have RD2 := m2
                have R4 : RSq t P e r2 g56 := R_2
                have T5 : g66 387 = T := by rw [eg66, zup_na (by decide), T4]
                have L5 : g66 386 2 = (L : Int) := by rw [eg66, zup_ne (Or.inl (by decide)), L4]
                have R5 : RSq t P e (r2) g66 := by
                  rw [eg66]
                  exact RSq_st R4 (by decide)
                have T6 : g72 387 = T := (rg72.a (by decide)).trans T5
                have L6 : g72 386 2 = (L : Int) := (rg72.s (by decide)).trans L5
                have R6 : RSq t P e (zbd (r2) (nOw t 20)) g72 := qg72
                exact w_2328 tk T6 L6 R6 (by decide)
              · skip
                intro g79 rg79 qg79 x81 ex81 o37 o38 g89 eg89 x90 ex90 o41 o42
                refine ⟨fun h43z => ?_, fun h43z => ?_⟩
                · skip
                  obtain ⟨w, hw, h35, n1, n2, n3⟩ := D
                  have ew : x1.toNat = w := by omega
                  have e8 : x8 = ((dL d).length : Int) := by
                    rw [ex8, ew]
                    exact n3
                  obtain ⟨r3, R_3, m3⟩ := qg79
                  have T0 : s0 387 = T := hT
                  have L0 : s0 386 2 = (L : Int) := hL
                  have T1 : g20 387 = T := (rg20.a (by decide)).trans T0
                  have L1 : g20 386 2 = (L : Int) := (rg20.s (by decide)).trans L0
                  have ha : AH T L (s0 386 5).toNat g20 := by
                    have q : AH (s0 387) (s0 386 2).toNat (s0 386 5).toNat g20 := qg20
                    rw [hT, hL] at q
                    exact q
                  have R1 : RSq t P e (.inl (i + 1)) g20 := rs_next (F := fun k => .inl (k + 1)) tk A hi (by omega) (by omega) rfl ha
                  have T2 : g41 387 = T := by rw [eg41, zup_na (by decide), T1]
                  have L2 : g41 386 2 = (L : Int) := by rw [eg41, zup_ne (Or.inl (by decide)), L1]
                  have R2 : RSq t P e (.inl (i + 1)) g41 := by
                    rw [eg41]
                    exact RSq_st R1 (by decide)
                  have T3 : g50 387 = T := by rw [eg50, zup_na (by decide), T2]
                  have L3 : g50 386 2 = (L : Int) := by rw [eg50, zup_ne (Or.inl (by decide)), L2]
                  have R3 : RSq t P e (.inl (i + 1)) g50 := by
                    rw [eg50]
                    exact RSq_st R2 (by decide)
                  have T4 : g56 387 = T := (rg56.a (by decide)).trans T3
                  have L4 : g56 386 2 = (L : Int) := (rg56.s (by decide)).trans L3
                  have RD2 := m2
                  have R4 : RSq t P e r2 g56 := R_2
                  have T5 : g66 387 = T := by rw [eg66, zup_na (by decide), T4]
                  have L5 : g66 386 2 = (L : Int) := by rw [eg66, zup_ne (Or.inl (by decide)), L4]
                  have R5 : RSq t P e (r2) g66 := by
                    rw [eg66]
                    exact RSq_st R4 (by decide)
                  have T6 : g72 387 = T := (rg72.a (by decide)).trans T5
                  have L6 : g72 386 2 = (L : Int) := (rg72.s (by decide)).trans L5
                  have R6 : RSq t P e (zbd (r2) (nOw t 20)) g72 := qg72
                  have T7 : g79 387 = T := (rg79.a (by decide)).trans T6
                  have L7 : g79 386 2 = (L : Int) := (rg79.s (by decide)).trans L6
                  have RD3 := m3
                  have R7 : RSq t P e r3 g79 := R_3
                  have T8 : g89 387 = T := by rw [eg89, zup_na (by decide), T7]
                  have L8 : g89 386 2 = (L : Int) := by rw [eg89, zup_ne (Or.inl (by decide)), L7]
                  have R8 : RSq t P e (r3) g89 := by
                    rw [eg89]
                    exact RSq_st R7 (by decide)
                  refine ⟨⟨_, R8, ?_⟩, fun z => ?_, ⟨fun k hk => by rw [eg89, zup_ne (Or.inl (by decide)), rg79.a (a := 388) (by decide), rg72.a (a := 388) (by decide), eg66, zup_ne (Or.inl (by decide)), rg56.a (a := 388) (by decide), eg50, zup_ne (Or.inl (by decide)), eg41, zup_ne (Or.inl (by decide)), rg20.a (a := 388) (by decide)], fun k hk => by rw [eg89, zup_ne (Or.inl (by decide)), rg79.a (a := 389) (by decide), rg72.a (a := 389) (by decide), eg66, zup_ne (Or.inl (by decide)), rg56.a (a := 389) (by decide), eg50, zup_ne (Or.inl (by decide)), eg41, zup_ne (Or.inl (by decide)), rg20.a (a := 389) (by decide)], fun k hk => by rw [eg89, zup_ne (Or.inl (by decide)), rg79.a (a := 396) (by decide), rg72.a (a := 396) (by decide), eg66, zup_ne (Or.inl (by decide)), rg56.a (a := 396) (by decide), eg50, zup_ne (Or.inl (by decide)), eg41, zup_ne (Or.inl (by decide)), rg20.a (a := 396) (by decide)], fun k hk => by rw [eg89, zup_ne (Or.inl (by decide)), rg79.a (a := 397) (by decide), rg72.a (a := 397) (by decide), eg66, zup_ne (Or.inl (by decide)), rg56.a (a := 397) (by decide), eg50, zup_ne (Or.inl (by decide)), eg41, zup_ne (Or.inl (by decide)), rg20.a (a := 397) (by decide)]⟩⟩
                  · rw [stF_18 hk (by omega), lawF_eq (law_mk m2 m3)]
                  · exact absurd z (by omega)
                · skip
                  intro x100 ex100 g106 eg106
                  obtain ⟨w, hw, h35, n1, n2, n3⟩ := D
                  have ew : x1.toNat = w := by omega
                  have e8 : x8 = ((dL d).length : Int) := by
                    rw [ex8, ew]
                    exact n3
                  obtain ⟨r3, R_3, m3⟩ := qg79
                  have T0 : s0 387 = T := hT
                  have L0 : s0 386 2 = (L : Int) := hL
                  have T1 : g20 387 = T := (rg20.a (by decide)).trans T0
                  have L1 : g20 386 2 = (L : Int) := (rg20.s (by decide)).trans L0
                  have ha : AH T L (s0 386 5).toNat g20 := by
                    have q : AH (s0 387) (s0 386 2).toNat (s0 386 5).toNat g20 := qg20
                    rw [hT, hL] at q
                    exact q
                  have R1 : RSq t P e (.inl (i + 1)) g20 := rs_next (F := fun k => .inl (k + 1)) tk A hi (by omega) (by omega) rfl ha
                  have T2 : g41 387 = T := by rw [eg41, zup_na (by decide), T1]
                  have L2 : g41 386 2 = (L : Int) := by rw [eg41, zup_ne (Or.inl (by decide)), L1]
                  have R2 : RSq t P e (.inl (i + 1)) g41 := by
                    rw [eg41]
                    exact RSq_st R1 (by decide)
                  have T3 : g50 387 = T := by rw [eg50, zup_na (by decide), T2]
                  have L3 : g50 386 2 = (L : Int) := by rw [eg50, zup_ne (Or.inl (by decide)), L2]
                  have R3 : RSq t P e (.inl (i + 1)) g50 := by
                    rw [eg50]
                    exact RSq_st R2 (by decide)
                  have T4 : g56 387 = T := (rg56.a (by decide)).trans T3
                  have L4 : g56 386 2 = (L : Int) := (rg56.s (by decide)).trans L3
                  have RD2 := m2
                  have R4 : RSq t P e r2 g56 := R_2
                  have T5 : g66 387 = T := by rw [eg66, zup_na (by decide), T4]
                  have L5 : g66 386 2 = (L : Int) := by rw [eg66, zup_ne (Or.inl (by decide)), L4]
                  have R5 : RSq t P e (r2) g66 := by
                    rw [eg66]
                    exact RSq_st R4 (by decide)
                  have T6 : g72 387 = T := (rg72.a (by decide)).trans T5
                  have L6 : g72 386 2 = (L : Int) := (rg72.s (by decide)).trans L5
                  have R6 : RSq t P e (zbd (r2) (nOw t 20)) g72 := qg72
                  have T7 : g79 387 = T := (rg79.a (by decide)).trans T6
                  have L7 : g79 386 2 = (L : Int) := (rg79.s (by decide)).trans L6
                  have RD3 := m3
                  have R7 : RSq t P e r3 g79 := R_3
                  have T8 : g89 387 = T := by rw [eg89, zup_na (by decide), T7]
                  have L8 : g89 386 2 = (L : Int) := by rw [eg89, zup_ne (Or.inl (by decide)), L7]
                  have R8 : RSq t P e (r3) g89 := by
                    rw [eg89]
                    exact RSq_st R7 (by decide)
                  have T9 : g106 387 = T := by rw [eg106, zup_na (by decide), T8]
                  have L9 : g106 386 2 = (L : Int) := by rw [eg106, zup_ne (Or.inl (by decide)), L8]
                  have R9 : RSq t P e (r3) g106 := by
                    rw [eg106]
                    exact RSq_st R8 (by decide)
                  refine ⟨⟨_, R9, ?_⟩, fun z => ?_, ⟨fun k hk => by rw [eg106, zup_ne (Or.inl (by decide)), eg89, zup_ne (Or.inl (by decide)), rg79.a (a := 388) (by decide), rg72.a (a := 388) (by decide), eg66, zup_ne (Or.inl (by decide)), rg56.a (a := 388) (by decide), eg50, zup_ne (Or.inl (by decide)), eg41, zup_ne (Or.inl (by decide)), rg20.a (a := 388) (by decide)], fun k hk => by rw [eg106, zup_ne (Or.inl (by decide)), eg89, zup_ne (Or.inl (by decide)), rg79.a (a := 389) (by decide), rg72.a (a := 389) (by decide), eg66, zup_ne (Or.inl (by decide)), rg56.a (a := 389) (by decide), eg50, zup_ne (Or.inl (by decide)), eg41, zup_ne (Or.inl (by decide)), rg20.a (a := 389) (by decide)], fun k hk => by rw [eg106, zup_ne (Or.inl (by decide)), eg89, zup_ne (Or.inl (by decide)), rg79.a (a := 396) (by decide), rg72.a (a := 396) (by decide), eg66, zup_ne (Or.inl (by decide)), rg56.a (a := 396) (by decide), eg50, zup_ne (Or.inl (by decide)), eg41, zup_ne (Or.inl (by decide)), rg20.a (a := 396) (by decide)], fun k hk => by rw [eg106, zup_ne (Or.inl (by decide)), eg89, zup_ne (Or.inl (by decide)), rg79.a (a := 397) (by decide), rg72.a (a := 397) (by decide), eg66, zup_ne (Or.inl (by decide)), rg56.a (a := 397) (by decide), eg50, zup_ne (Or.inl (by decide)), eg41, zup_ne (Or.inl (by decide)), rg20.a (a := 397) (by decide)]⟩⟩
                  · rw [stF_18 hk (by omega), lawF_eq (law_mk m2 m3)]
                  · rw [stD_18 hk]
                    refine ⟨w, hw, by rw [eg106, zup_ne (Or.inl (by decide)), eg89, zup_ne (Or.inl (by decide)), rg79.s (by decide), rg72.s (by decide), eg66, zup_ne (Or.inl (by decide)), rg56.s (by decide), eg50, zup_ne (Or.inl (by decide)), eg41, zup_ne (Or.inl (by decide)), rg20.s (by decide), h35], NLr_fr n1 (by rw [eg106, zup_na (by decide), eg89, zup_na (by decide), rg79.a (by decide), rg72.a (by decide), eg66, zup_na (by decide), rg56.a (by decide), eg50, zup_na (by decide), eg41, zup_na (by decide), rg20.a (by decide)]) (by rw [eg106, zup_na (by decide), eg89, zup_na (by decide), rg79.a (by decide), rg72.a (by decide), eg66, zup_na (by decide), rg56.a (by decide), eg50, zup_na (by decide), eg41, zup_na (by decide), rg20.a (by decide)]), NLr_fr n2 (by rw [eg106, zup_na (by decide), eg89, zup_na (by decide), rg79.a (by decide), rg72.a (by decide), eg66, zup_na (by decide), rg56.a (by decide), eg50, zup_na (by decide), eg41, zup_na (by decide), rg20.a (by decide)]) (by rw [eg106, zup_na (by decide), eg89, zup_na (by decide), rg79.a (by decide), rg72.a (by decide), eg66, zup_na (by decide), rg56.a (by decide), eg50, zup_na (by decide), eg41, zup_na (by decide), rg20.a (by decide)]), ?_⟩
                    rw [eg106, ← ew, zup_eq]
                    show _ = ((dL d ++ [i]).length : Int)
                    rw [List.length_append, List.length_singleton]
                    omega
  · skip
    intro x107 ex107 o9 o10
    refine ⟨fun h11z => ?_, fun h11z => ?_⟩
    · skip
      exfalso
      omega
    · skip
      intro x112 ex112 o13 o14 g120 eg120 g125 eg125
      obtain ⟨w, hw, h35, n1, n2, n3⟩ := D
      have ew : x1.toNat = w := by omega
      have e8 : x8 = ((dL d).length : Int) := by
        rw [ex8, ew]
        exact n3
      have g8 : g125 386 8 = 5 := by
        rw [eg125, zup_ne (Or.inr (by decide)), eg120, zup_eq]
      have g9 : g125 386 9 = t.2.2 i := by
        rw [eg125, zup_eq]
        have := A.2.2.1
        omega
      refine ⟨⟨.inr (5, t.2.2 i), ⟨g8, g9, by show (0 : Int) < 5; decide⟩, ?_⟩, fun z => absurd z (by omega), ⟨fun k hk => by rw [eg125, zup_ne (Or.inl (by decide)), eg120, zup_ne (Or.inl (by decide))], fun k hk => by rw [eg125, zup_ne (Or.inl (by decide)), eg120, zup_ne (Or.inl (by decide))], fun k hk => by rw [eg125, zup_ne (Or.inl (by decide)), eg120, zup_ne (Or.inl (by decide))], fun k hk => by rw [eg125, zup_ne (Or.inl (by decide)), eg120, zup_ne (Or.inl (by decide))]⟩⟩
      rw [stF_18f hk (by omega)]
set_option maxHeartbeats 4000000 in
theorem w_2314 {T : Nat → Int} {L e i : Nat} {t : zK} {P : Nat → Nat} {d : zDS} {s0 : zF} (tk : Toks T L t.1 t.2.1 t.2.2 P e) (hT : s0 387 = T) (hL : s0 386 2 = (L : Int)) (hi : i ≤ e) (A : ATT t P i s0) (D : DIR t e s0 d) : p_2314 s0 (fun g => (∃ r, RSq t P e r g ∧ zbd r (nSc t) = zbd (stF t d i) (nSc t)) ∧ (g 386 8 = 0 → DIR t e g (stD t d i)) ∧ HFS s0 g) := by
  have a8 := A.2.1
  unfold p_2314
  intro x1 ex1 o2 o3
  refine ⟨fun h4z => ?_, fun h4z => ?_⟩
  · skip
    refine ⟨fun h5z => ?_, fun h5z => ?_⟩
    · skip
      refine ⟨fun h6z => ?_, fun h6z => ?_⟩
      · skip
        refine ⟨fun h7z => ?_, fun h7z => ?_⟩
        · skip
          refine ⟨fun h8z => ?_, fun h8z => ?_⟩
          · skip
            intro x10 ex10 o10 o11 x14 ex14 o13 o14
            refine ⟨fun h15z => ?_, fun h15z => ?_⟩
            · skip
              exfalso
              omega
            · skip
              intro g23 eg23 g28 eg28
              refine ⟨⟨.inr (flt t i), ⟨?_, ?_, ?_⟩, ?_⟩, fun z => ?_, ?_⟩
              rotate_right
              · exact ⟨fun k hk => by rw [eg28, zup_na (by decide), eg23, zup_na (by decide)], fun k hk => by rw [eg28, zup_na (by decide), eg23, zup_na (by decide)], fun k hk => by rw [eg28, zup_na (by decide), eg23, zup_na (by decide)], fun k hk => by rw [eg28, zup_na (by decide), eg23, zup_na (by decide)]⟩
              · rw [eg28, zup_ne (Or.inr (by decide)), eg23, zup_eq]
                rfl
              · rw [eg28, zup_eq, ← att_flt A]
                omega
              · show (0 : Int) < 1
                decide
              · rw [stF_x (att_now A (w := 7) (a := 6451065) (OW_w (by decide) rfl) (fun y => by omega)) (att_now A (w := 12) (a := 495739560811) (OW_w (by decide) rfl) (fun y => by omega)) (att_now A (w := 14) (a := 431415976301) (OW_w (by decide) rfl) (fun y => by omega)) (att_now A (w := 18) (a := 1885434739) (OW_w (by decide) rfl) (fun y => by omega)) (att_now A (w := 19) (a := 1684366704) (OW_w (by decide) rfl) (fun y => by omega))]
              · exfalso
                have w8 : g28 386 8 = 1 := by rw [eg28, zup_ne (Or.inr (by decide)), eg23, zup_eq]
                omega
          · skip
            intro y32 ey32 x33 ex33
            refine ⟨fun h11z => ?_, fun h11z => ?_⟩
            · skip
              intro x36 ex36 o13 o14 x40 ex40 o16 o17
              refine ⟨fun h18z => ?_, fun h18z => ?_⟩
              · skip
                exfalso
                omega
              · skip
                intro g49 eg49 g54 eg54
                refine ⟨⟨.inr (flt t i), ⟨?_, ?_, ?_⟩, ?_⟩, fun z => ?_, ?_⟩
                rotate_right
                · exact ⟨fun k hk => by rw [eg54, zup_na (by decide), eg49, zup_na (by decide)], fun k hk => by rw [eg54, zup_na (by decide), eg49, zup_na (by decide)], fun k hk => by rw [eg54, zup_na (by decide), eg49, zup_na (by decide)], fun k hk => by rw [eg54, zup_na (by decide), eg49, zup_na (by decide)]⟩
                · rw [eg54, zup_ne (Or.inr (by decide)), eg49, zup_eq]
                  rfl
                · rw [eg54, zup_eq, ← att_flt A]
                  omega
                · show (0 : Int) < 1
                  decide
                · rw [stF_x (att_now A (w := 7) (a := 6451065) (OW_w (by decide) rfl) (fun y => by omega)) (att_now A (w := 12) (a := 495739560811) (OW_w (by decide) rfl) (fun y => by omega)) (att_now A (w := 14) (a := 431415976301) (OW_w (by decide) rfl) (fun y => by omega)) (att_now A (w := 18) (a := 1885434739) (OW_w (by decide) rfl) (fun y => by omega)) (att_now A (w := 19) (a := 1684366704) (OW_w (by decide) rfl) (fun y => by omega))]
                · exfalso
                  have w8 : g54 386 8 = 1 := by rw [eg54, zup_ne (Or.inr (by decide)), eg49, zup_eq]
                  omega
            · skip
              refine ⟨fun g' => (∃ r, RSq t P e r g' ∧ zbd r (nSc t) = zbd (stF t d i) (nSc t)) ∧ (g' 386 8 = 0 → DIR t e g' (stD t d i)) ∧ HFS s0 g', ?_, ?_⟩
              · skip
                exact w_2327 tk hT hL hi A (Or.inr ((att_own A (w := 19) (a := 1684366704) (OW_w (by decide) rfl)).mpr ⟨by omega, by omega⟩)) D (Or.inr rfl)
              · skip
                intro g60 rg60 qg60
                exact qg60
        · skip
          intro y65 ey65 x66 ex66
          refine ⟨fun h10z => ?_, fun h10z => ?_⟩
          · skip
            intro x69 ex69
            refine ⟨fun h12z => ?_, fun h12z => ?_⟩
            · skip
              intro x72 ex72 o14 o15 x76 ex76 o17 o18
              refine ⟨fun h19z => ?_, fun h19z => ?_⟩
              · skip
                exfalso
                omega
              · skip
                intro g85 eg85 g90 eg90
                refine ⟨⟨.inr (flt t i), ⟨?_, ?_, ?_⟩, ?_⟩, fun z => ?_, ?_⟩
                rotate_right
                · exact ⟨fun k hk => by rw [eg90, zup_na (by decide), eg85, zup_na (by decide)], fun k hk => by rw [eg90, zup_na (by decide), eg85, zup_na (by decide)], fun k hk => by rw [eg90, zup_na (by decide), eg85, zup_na (by decide)], fun k hk => by rw [eg90, zup_na (by decide), eg85, zup_na (by decide)]⟩
                · rw [eg90, zup_ne (Or.inr (by decide)), eg85, zup_eq]
                  rfl
                · rw [eg90, zup_eq, ← att_flt A]
                  omega
                · show (0 : Int) < 1
                  decide
                · rw [stF_x (att_now A (w := 7) (a := 6451065) (OW_w (by decide) rfl) (fun y => by omega)) (att_now A (w := 12) (a := 495739560811) (OW_w (by decide) rfl) (fun y => by omega)) (att_now A (w := 14) (a := 431415976301) (OW_w (by decide) rfl) (fun y => by omega)) (att_now A (w := 18) (a := 1885434739) (OW_w (by decide) rfl) (fun y => by omega)) (att_now A (w := 19) (a := 1684366704) (OW_w (by decide) rfl) (fun y => by omega))]
                · exfalso
                  have w8 : g90 386 8 = 1 := by rw [eg90, zup_ne (Or.inr (by decide)), eg85, zup_eq]
                  omega
            · skip
              refine ⟨fun g' => (∃ r, RSq t P e r g' ∧ zbd r (nSc t) = zbd (stF t d i) (nSc t)) ∧ (g' 386 8 = 0 → DIR t e g' (stD t d i)) ∧ HFS s0 g', ?_, ?_⟩
              · skip
                exact w_2327 tk hT hL hi A (Or.inr ((att_own A (w := 19) (a := 1684366704) (OW_w (by decide) rfl)).mpr ⟨by omega, by omega⟩)) D (Or.inr rfl)
              · skip
                intro g96 rg96 qg96
                exact qg96
          · skip
            refine ⟨fun g' => (∃ r, RSq t P e r g' ∧ zbd r (nSc t) = zbd (stF t d i) (nSc t)) ∧ (g' 386 8 = 0 → DIR t e g' (stD t d i)) ∧ HFS s0 g', ?_, ?_⟩
            · skip
              exact w_2327 tk hT hL hi A (Or.inl ((att_own A (w := 18) (a := 1885434739) (OW_w (by decide) rfl)).mpr ⟨by omega, by omega⟩)) D (Or.inl rfl)
            · skip
              intro g103 rg103 qg103
              exact qg103
      · skip
        intro y108 ey108 x109 ex109
        refine ⟨fun h9z => ?_, fun h9z => ?_⟩
        · skip
          intro x112 ex112
          refine ⟨fun h11z => ?_, fun h11z => ?_⟩
          · skip
            intro x115 ex115
            refine ⟨fun h13z => ?_, fun h13z => ?_⟩
            · skip
              intro x118 ex118 o15 o16 x122 ex122 o18 o19
              refine ⟨fun h20z => ?_, fun h20z => ?_⟩
              · skip
                exfalso
                omega
              · skip
                intro g131 eg131 g136 eg136
                refine ⟨⟨.inr (flt t i), ⟨?_, ?_, ?_⟩, ?_⟩, fun z => ?_, ?_⟩
                rotate_right
                · exact ⟨fun k hk => by rw [eg136, zup_na (by decide), eg131, zup_na (by decide)], fun k hk => by rw [eg136, zup_na (by decide), eg131, zup_na (by decide)], fun k hk => by rw [eg136, zup_na (by decide), eg131, zup_na (by decide)], fun k hk => by rw [eg136, zup_na (by decide), eg131, zup_na (by decide)]⟩
                · rw [eg136, zup_ne (Or.inr (by decide)), eg131, zup_eq]
                  rfl
                · rw [eg136, zup_eq, ← att_flt A]
                  omega
                · show (0 : Int) < 1
                  decide
                · rw [stF_x (att_now A (w := 7) (a := 6451065) (OW_w (by decide) rfl) (fun y => by omega)) (att_now A (w := 12) (a := 495739560811) (OW_w (by decide) rfl) (fun y => by omega)) (att_now A (w := 14) (a := 431415976301) (OW_w (by decide) rfl) (fun y => by omega)) (att_now A (w := 18) (a := 1885434739) (OW_w (by decide) rfl) (fun y => by omega)) (att_now A (w := 19) (a := 1684366704) (OW_w (by decide) rfl) (fun y => by omega))]
                · exfalso
                  have w8 : g136 386 8 = 1 := by rw [eg136, zup_ne (Or.inr (by decide)), eg131, zup_eq]
                  omega
            · skip
              refine ⟨fun g' => (∃ r, RSq t P e r g' ∧ zbd r (nSc t) = zbd (stF t d i) (nSc t)) ∧ (g' 386 8 = 0 → DIR t e g' (stD t d i)) ∧ HFS s0 g', ?_, ?_⟩
              · skip
                exact w_2327 tk hT hL hi A (Or.inr ((att_own A (w := 19) (a := 1684366704) (OW_w (by decide) rfl)).mpr ⟨by omega, by omega⟩)) D (Or.inr rfl)
              · skip
                intro g142 rg142 qg142
                exact qg142
          · skip
            refine ⟨fun g' => (∃ r, RSq t P e r g' ∧ zbd r (nSc t) = zbd (stF t d i) (nSc t)) ∧ (g' 386 8 = 0 → DIR t e g' (stD t d i)) ∧ HFS s0 g', ?_, ?_⟩
            · skip
              exact w_2327 tk hT hL hi A (Or.inl ((att_own A (w := 18) (a := 1885434739) (OW_w (by decide) rfl)).mpr ⟨by omega, by omega⟩)) D (Or.inl rfl)
            · skip
              intro g149 rg149 qg149
              exact qg149
        · skip
          refine ⟨fun g' => (∃ r, RSq t P e r g' ∧ zbd r (nSc t) = zbd (stF t d i) (nSc t)) ∧ (g' 386 8 = 0 → DIR t e g' (stD t d i)) ∧ HFS s0 g', ?_, ?_⟩
          · skip
            exact w_2326 tk hT hL hi A ((att_own A (w := 14) (a := 431415976301) (OW_w (by decide) rfl)).mpr ⟨by omega, by omega⟩) D
          · skip
            intro g156 rg156 qg156
            exact qg156
    · skip
      intro y161 ey161 x162 ex162
      refine ⟨fun h8z => ?_, fun h8z => ?_⟩
      · skip
        intro x165 ex165
        refine ⟨fun h10z => ?_, fun h10z => ?_⟩
        · skip
          intro x168 ex168
          refine ⟨fun h12z => ?_, fun h12z => ?_⟩
          · skip
            intro x171 ex171
            refine ⟨fun h14z => ?_, fun h14z => ?_⟩
            · skip
              intro x174 ex174 o16 o17 x178 ex178 o19 o20
              refine ⟨fun h21z => ?_, fun h21z => ?_⟩
              · skip
                exfalso
                omega
              · skip
                intro g187 eg187 g192 eg192
                refine ⟨⟨.inr (flt t i), ⟨?_, ?_, ?_⟩, ?_⟩, fun z => ?_, ?_⟩
                rotate_right
                · exact ⟨fun k hk => by rw [eg192, zup_na (by decide), eg187, zup_na (by decide)], fun k hk => by rw [eg192, zup_na (by decide), eg187, zup_na (by decide)], fun k hk => by rw [eg192, zup_na (by decide), eg187, zup_na (by decide)], fun k hk => by rw [eg192, zup_na (by decide), eg187, zup_na (by decide)]⟩
                · rw [eg192, zup_ne (Or.inr (by decide)), eg187, zup_eq]
                  rfl
                · rw [eg192, zup_eq, ← att_flt A]
                  omega
                · show (0 : Int) < 1
                  decide
                · rw [stF_x (att_now A (w := 7) (a := 6451065) (OW_w (by decide) rfl) (fun y => by omega)) (att_now A (w := 12) (a := 495739560811) (OW_w (by decide) rfl) (fun y => by omega)) (att_now A (w := 14) (a := 431415976301) (OW_w (by decide) rfl) (fun y => by omega)) (att_now A (w := 18) (a := 1885434739) (OW_w (by decide) rfl) (fun y => by omega)) (att_now A (w := 19) (a := 1684366704) (OW_w (by decide) rfl) (fun y => by omega))]
                · exfalso
                  have w8 : g192 386 8 = 1 := by rw [eg192, zup_ne (Or.inr (by decide)), eg187, zup_eq]
                  omega
            · skip
              refine ⟨fun g' => (∃ r, RSq t P e r g' ∧ zbd r (nSc t) = zbd (stF t d i) (nSc t)) ∧ (g' 386 8 = 0 → DIR t e g' (stD t d i)) ∧ HFS s0 g', ?_, ?_⟩
              · skip
                exact w_2327 tk hT hL hi A (Or.inr ((att_own A (w := 19) (a := 1684366704) (OW_w (by decide) rfl)).mpr ⟨by omega, by omega⟩)) D (Or.inr rfl)
              · skip
                intro g198 rg198 qg198
                exact qg198
          · skip
            refine ⟨fun g' => (∃ r, RSq t P e r g' ∧ zbd r (nSc t) = zbd (stF t d i) (nSc t)) ∧ (g' 386 8 = 0 → DIR t e g' (stD t d i)) ∧ HFS s0 g', ?_, ?_⟩
            · skip
              exact w_2327 tk hT hL hi A (Or.inl ((att_own A (w := 18) (a := 1885434739) (OW_w (by decide) rfl)).mpr ⟨by omega, by omega⟩)) D (Or.inl rfl)
            · skip
              intro g205 rg205 qg205
              exact qg205
        · skip
          refine ⟨fun g' => (∃ r, RSq t P e r g' ∧ zbd r (nSc t) = zbd (stF t d i) (nSc t)) ∧ (g' 386 8 = 0 → DIR t e g' (stD t d i)) ∧ HFS s0 g', ?_, ?_⟩
          · skip
            exact w_2326 tk hT hL hi A ((att_own A (w := 14) (a := 431415976301) (OW_w (by decide) rfl)).mpr ⟨by omega, by omega⟩) D
          · skip
            intro g212 rg212 qg212
            exact qg212
      · skip
        refine ⟨fun g' => (∃ r, RSq t P e r g' ∧ zbd r (nSc t) = zbd (stF t d i) (nSc t)) ∧ (g' 386 8 = 0 → DIR t e g' (stD t d i)) ∧ HFS s0 g', ?_, ?_⟩
        · skip
          exact w_2325 tk hT hL hi A ((att_own A (w := 12) (a := 495739560811) (OW_w (by decide) rfl)).mpr ⟨by omega, by omega⟩) D
        · skip
          intro g219 rg219 qg219
          exact qg219
  · skip
    intro y224 ey224 x225 ex225
    refine ⟨fun h7z => ?_, fun h7z => ?_⟩
    · skip
      intro x228 ex228
      refine ⟨fun h9z => ?_, fun h9z => ?_⟩
      · skip
        intro x231 ex231
        refine ⟨fun h11z => ?_, fun h11z => ?_⟩
        · skip
          intro x234 ex234
          refine ⟨fun h13z => ?_, fun h13z => ?_⟩
          · skip
            intro x237 ex237
            refine ⟨fun h15z => ?_, fun h15z => ?_⟩
            · skip
              intro x240 ex240 o17 o18 x244 ex244 o20 o21
              refine ⟨fun h22z => ?_, fun h22z => ?_⟩
              · skip
                exfalso
                omega
              · skip
                intro g253 eg253 g258 eg258
                refine ⟨⟨.inr (flt t i), ⟨?_, ?_, ?_⟩, ?_⟩, fun z => ?_, ?_⟩
                rotate_right
                · exact ⟨fun k hk => by rw [eg258, zup_na (by decide), eg253, zup_na (by decide)], fun k hk => by rw [eg258, zup_na (by decide), eg253, zup_na (by decide)], fun k hk => by rw [eg258, zup_na (by decide), eg253, zup_na (by decide)], fun k hk => by rw [eg258, zup_na (by decide), eg253, zup_na (by decide)]⟩
                · rw [eg258, zup_ne (Or.inr (by decide)), eg253, zup_eq]
                  rfl
                · rw [eg258, zup_eq, ← att_flt A]
                  omega
                · show (0 : Int) < 1
                  decide
                · rw [stF_x (att_now A (w := 7) (a := 6451065) (OW_w (by decide) rfl) (fun y => by omega)) (att_now A (w := 12) (a := 495739560811) (OW_w (by decide) rfl) (fun y => by omega)) (att_now A (w := 14) (a := 431415976301) (OW_w (by decide) rfl) (fun y => by omega)) (att_now A (w := 18) (a := 1885434739) (OW_w (by decide) rfl) (fun y => by omega)) (att_now A (w := 19) (a := 1684366704) (OW_w (by decide) rfl) (fun y => by omega))]
                · exfalso
                  have w8 : g258 386 8 = 1 := by rw [eg258, zup_ne (Or.inr (by decide)), eg253, zup_eq]
                  omega
            · skip
              refine ⟨fun g' => (∃ r, RSq t P e r g' ∧ zbd r (nSc t) = zbd (stF t d i) (nSc t)) ∧ (g' 386 8 = 0 → DIR t e g' (stD t d i)) ∧ HFS s0 g', ?_, ?_⟩
              · skip
                exact w_2327 tk hT hL hi A (Or.inr ((att_own A (w := 19) (a := 1684366704) (OW_w (by decide) rfl)).mpr ⟨by omega, by omega⟩)) D (Or.inr rfl)
              · skip
                intro g264 rg264 qg264
                exact qg264
          · skip
            refine ⟨fun g' => (∃ r, RSq t P e r g' ∧ zbd r (nSc t) = zbd (stF t d i) (nSc t)) ∧ (g' 386 8 = 0 → DIR t e g' (stD t d i)) ∧ HFS s0 g', ?_, ?_⟩
            · skip
              exact w_2327 tk hT hL hi A (Or.inl ((att_own A (w := 18) (a := 1885434739) (OW_w (by decide) rfl)).mpr ⟨by omega, by omega⟩)) D (Or.inl rfl)
            · skip
              intro g271 rg271 qg271
              exact qg271
        · skip
          refine ⟨fun g' => (∃ r, RSq t P e r g' ∧ zbd r (nSc t) = zbd (stF t d i) (nSc t)) ∧ (g' 386 8 = 0 → DIR t e g' (stD t d i)) ∧ HFS s0 g', ?_, ?_⟩
          · skip
            exact w_2326 tk hT hL hi A ((att_own A (w := 14) (a := 431415976301) (OW_w (by decide) rfl)).mpr ⟨by omega, by omega⟩) D
          · skip
            intro g278 rg278 qg278
            exact qg278
      · skip
        refine ⟨fun g' => (∃ r, RSq t P e r g' ∧ zbd r (nSc t) = zbd (stF t d i) (nSc t)) ∧ (g' 386 8 = 0 → DIR t e g' (stD t d i)) ∧ HFS s0 g', ?_, ?_⟩
        · skip
          exact w_2325 tk hT hL hi A ((att_own A (w := 12) (a := 495739560811) (OW_w (by decide) rfl)).mpr ⟨by omega, by omega⟩) D
        · skip
          intro g285 rg285 qg285
          exact qg285
    · skip
      refine ⟨fun g' => (∃ r, RSq t P e r g' ∧ zbd r (nSc t) = zbd (stF t d i) (nSc t)) ∧ (g' 386 8 = 0 → DIR t e g' (stD t d i)) ∧ HFS s0 g', ?_, ?_⟩
      · skip
        exact w_2316 tk hT hL hi A ((att_own A (w := 7) (a := 6451065) (OW_w (by decide) rfl)).mpr ⟨by omega, by omega⟩) D
      · skip
        intro g292 rg292 qg292
        exact qg292
set_option maxHeartbeats 4000000 in
theorem w_2339 {T : Nat → Int} {L e : Nat} {t : zK} {P : Nat → Nat} {r : zP} {s0 : zF} (tk : Toks T L t.1 t.2.1 t.2.2 P e) (hT : s0 387 = T) (hL : s0 386 2 = (L : Int)) (hr : RSq t P e r s0) {a0 : Int} : p_2339 s0 a0 (fun g => RSq t P e (zbd r (enF t a0)) g) := by
  refine ⟨fun g v13_1 v13_2 => g = s0 ∧ v13_1 = a0 ∧ ∃ i, r = .inl i ∧ i ≤ e ∧ ATT t P i g ∧ AB T L (P (i + 1)) v13_2.toNat, ?_, ?_⟩
  · skip
    intro x157 ex157 o2 o3
    refine ⟨fun h4z => ?_, fun h4z => ?_⟩
    · skip
      exact rs_fault hr (by omega) (fun i h => en_bad h)
    · skip
      intro x162 ex162 o6 o7
      obtain ⟨i, rfl, hi, A⟩ := rs_ok hr (by omega)
      have a5 := A.2.2.2.1
      exact ⟨rfl, rfl, i, rfl, hi, A, by omega, Or.inr (by omega), fun k h1 h2 => absurd h2 (by omega)⟩
  · intro g v13_1 v13_2 rg o1 o2 hI
    obtain ⟨hg, hv, i, hri, hi, A, hab⟩ := hI
    subst hg
    subst hri
    have a8 := A.2.1
    intro x1 ex1 o4 o5
    refine ⟨fun h6z => ?_, fun h6z => ?_⟩
    · skip
      intro x9 ex9 o8 o9
      refine ⟨fun h10z => ?_, fun h10z => ?_⟩
      · skip
        refine ⟨fun h11z => ?_, fun h11z => ?_⟩
        · skip
          intro x15 ex15 o13 o14
          refine ⟨fun h15z => ?_, fun h15z => ?_⟩
          · skip
            refine ⟨fun g' => RSq t P e (zbd (.inl i) (nSc t)) g', ?_, ?_⟩
            · skip
              exact w_2340 tk hT hL hr rfl
            · skip
              intro g25 rg25 qg25
              have Q : RSq t P e (zbd (.inl i) (nSc t)) g25 := qg25
              show RSq t P e (enF t a0 i) g25
              have sg : sgB t 59 i = false := att_nsg A (by decide) (fun y => by omega)
              rw [zbd_l, nSc_0 sg] at Q
              rw [en_f sg]
              exact Q
          · skip
            intro x27 ex27
            refine ⟨fun h17z => ?_, fun h17z => ?_⟩
            · skip
              refine ⟨fun g' => RSq t P e (zbd (.inl i) (nSc t)) g', ?_, ?_⟩
              · skip
                exact w_2340 tk hT hL hr rfl
              · skip
                intro g37 rg37 qg37
                have Q : RSq t P e (zbd (.inl i) (nSc t)) g37 := qg37
                show RSq t P e (enF t a0 i) g37
                have sg : sgB t 59 i = false := att_nsg A (by decide) (fun y => by omega)
                rw [zbd_l, nSc_0 sg] at Q
                rw [en_f sg]
                exact Q
            · skip
              refine ⟨fun h18z => ?_, fun h18z => ?_⟩
              · skip
                refine ⟨fun g' => RSq t P e (zbd (.inl i) (nSc t)) g', ?_, ?_⟩
                · skip
                  exact w_2340 tk hT hL hr rfl
                · skip
                  intro g45 rg45 qg45
                  have Q : RSq t P e (zbd (.inl i) (nSc t)) g45 := qg45
                  show RSq t P e (enF t a0 i) g45
                  rw [zbd_l] at Q
                  rw [en_n (by omega)]
                  exact Q
              · skip
                refine ⟨fun h19z => ?_, fun h19z => ?_⟩
                · skip
                  intro x48 ex48 o21 o22
                  refine ⟨fun h23z => ?_, fun h23z => ?_⟩
                  · skip
                    refine ⟨fun g' => RSq t P e (zbd (.inl i) (nSc t)) g', ?_, ?_⟩
                    · skip
                      exact w_2340 tk hT hL hr rfl
                    · skip
                      intro g58 rg58 qg58
                      exfalso
                      omega
                  · skip
                    intro g64 eg64 g69 eg69
                    refine ⟨fun g' => RSq t P e (zbd (.inr (5, v13_2)) (nSc t)) g', ?_, ?_⟩
                    · skip
                      have R2 : RSq t P e (.inr (5, v13_2)) g69 := ⟨by rw [eg69, zup_ne (Or.inr (by decide)), eg64, zup_eq], by rw [eg69, zup_eq], by show (0 : Int) < 5; decide⟩
                      exact w_2340 (r := .inr (5, v13_2)) tk (by rw [eg69, zup_na (by decide), eg64, zup_na (by decide), hT]) (by rw [eg69, zup_ne (Or.inr (by decide)), eg64, zup_ne (Or.inr (by decide)), hL]) R2 rfl
                    · skip
                      intro g75 rg75 qg75
                      have sg : sgB t 59 i = true := (att_sg A (by decide)).mpr ⟨by omega, by omega⟩
                      have k5 := (sgB_iff.mp sg).1
                      have hl : i + 1 ≤ e := by
                        by_cases z : i = e
                        · have := tk.2.2
                          rw [← z] at this
                          omega
                        · omega
                      obtain ⟨y1, y2⟩ := tok_at tk hl hab
                      have h90 : a0 = 90 := by omega
                      subst h90
                      have bb : x9 = T v13_2.toNat := by rw [ex9, hT]
                      obtain ⟨w1, w2⟩ := y1 (by omega) (fun z => by
                        have := kof_0.mp z
                        omega)
                      show RSq t P e (enF t 90 i) g75
                      rw [en_90 sg]
                      unfold end90
                      rw [if_neg w1, w2, show ((v13_2.toNat : Nat) : Int) = v13_2 by omega]
                      exact qg75
                · skip
                  refine ⟨fun g' => RSq t P e (zbd (.inl i) (nSc t)) g', ?_, ?_⟩
                  · skip
                    exact w_2340 tk hT hL hr rfl
                  · skip
                    intro g82 rg82 qg82
                    have sg : sgB t 59 i = true := (att_sg A (by decide)).mpr ⟨by omega, by omega⟩
                    have k5 := (sgB_iff.mp sg).1
                    have hl : i + 1 ≤ e := by
                      by_cases z : i = e
                      · have := tk.2.2
                        rw [← z] at this
                        omega
                      · omega
                    obtain ⟨y1, y2⟩ := tok_at tk hl hab
                    have h90 : a0 = 90 := by omega
                    subst h90
                    have w := y2 (by omega)
                    have Q : RSq t P e (zbd (.inl i) (nSc t)) g82 := qg82
                    show RSq t P e (enF t 90 i) g82
                    rw [zbd_l, nSc_1 sg] at Q
                    rw [en_90 sg]
                    unfold end90
                    rw [if_pos w]
                    exact Q
        · skip
          intro x84 ex84
          have bb : x9 = T v13_2.toNat := by rw [ex9, hT]
          refine ⟨rfl, hv, i, rfl, hi, A, ?_⟩
          rw [show x84.toNat = v13_2.toNat + 1 by omega]
          exact AB_up hab (by omega) (kof_0.mpr (by omega))
      · skip
        intro x86 ex86
        have bb : x9 = T v13_2.toNat := by rw [ex9, hT]
        refine ⟨rfl, hv, i, rfl, hi, A, ?_⟩
        rw [show x86.toNat = v13_2.toNat + 1 by omega]
        exact AB_up hab (by omega) (kof_0.mpr (by omega))
    · skip
      intro x88 ex88 o8 o9
      refine ⟨fun h10z => ?_, fun h10z => ?_⟩
      · skip
        refine ⟨fun g' => RSq t P e (zbd (.inl i) (nSc t)) g', ?_, ?_⟩
        · skip
          exact w_2340 tk hT hL hr rfl
        · skip
          intro g98 rg98 qg98
          have Q : RSq t P e (zbd (.inl i) (nSc t)) g98 := qg98
          show RSq t P e (enF t a0 i) g98
          have sg : sgB t 59 i = false := att_nsg A (by decide) (fun y => by omega)
          rw [zbd_l, nSc_0 sg] at Q
          rw [en_f sg]
          exact Q
      · skip
        intro x100 ex100
        refine ⟨fun h12z => ?_, fun h12z => ?_⟩
        · skip
          refine ⟨fun g' => RSq t P e (zbd (.inl i) (nSc t)) g', ?_, ?_⟩
          · skip
            exact w_2340 tk hT hL hr rfl
          · skip
            intro g110 rg110 qg110
            have Q : RSq t P e (zbd (.inl i) (nSc t)) g110 := qg110
            show RSq t P e (enF t a0 i) g110
            have sg : sgB t 59 i = false := att_nsg A (by decide) (fun y => by omega)
            rw [zbd_l, nSc_0 sg] at Q
            rw [en_f sg]
            exact Q
        · skip
          refine ⟨fun h13z => ?_, fun h13z => ?_⟩
          · skip
            refine ⟨fun g' => RSq t P e (zbd (.inl i) (nSc t)) g', ?_, ?_⟩
            · skip
              exact w_2340 tk hT hL hr rfl
            · skip
              intro g118 rg118 qg118
              have Q : RSq t P e (zbd (.inl i) (nSc t)) g118 := qg118
              show RSq t P e (enF t a0 i) g118
              rw [zbd_l] at Q
              rw [en_n (by omega)]
              exact Q
          · skip
            refine ⟨fun h14z => ?_, fun h14z => ?_⟩
            · skip
              intro x121 ex121 o16 o17
              refine ⟨fun h18z => ?_, fun h18z => ?_⟩
              · skip
                refine ⟨fun g' => RSq t P e (zbd (.inl i) (nSc t)) g', ?_, ?_⟩
                · skip
                  exact w_2340 tk hT hL hr rfl
                · skip
                  intro g131 rg131 qg131
                  exfalso
                  omega
              · skip
                intro g137 eg137 g142 eg142
                refine ⟨fun g' => RSq t P e (zbd (.inr (5, v13_2)) (nSc t)) g', ?_, ?_⟩
                · skip
                  have R2 : RSq t P e (.inr (5, v13_2)) g142 := ⟨by rw [eg142, zup_ne (Or.inr (by decide)), eg137, zup_eq], by rw [eg142, zup_eq], by show (0 : Int) < 5; decide⟩
                  exact w_2340 (r := .inr (5, v13_2)) tk (by rw [eg142, zup_na (by decide), eg137, zup_na (by decide), hT]) (by rw [eg142, zup_ne (Or.inr (by decide)), eg137, zup_ne (Or.inr (by decide)), hL]) R2 rfl
                · skip
                  intro g148 rg148 qg148
                  exfalso
                  omega
            · skip
              refine ⟨fun g' => RSq t P e (zbd (.inl i) (nSc t)) g', ?_, ?_⟩
              · skip
                exact w_2340 tk hT hL hr rfl
              · skip
                intro g155 rg155 qg155
                have sg : sgB t 59 i = true := (att_sg A (by decide)).mpr ⟨by omega, by omega⟩
                have k5 := (sgB_iff.mp sg).1
                have hl : i + 1 ≤ e := by
                  by_cases z : i = e
                  · have := tk.2.2
                    rw [← z] at this
                    omega
                  · omega
                obtain ⟨y1, y2⟩ := tok_at tk hl hab
                have h90 : a0 = 90 := by omega
                subst h90
                have w := y2 (by omega)
                have Q : RSq t P e (zbd (.inl i) (nSc t)) g155 := qg155
                show RSq t P e (enF t 90 i) g155
                rw [zbd_l, nSc_1 sg] at Q
                rw [en_90 sg]
                unfold end90
                rw [if_pos w]
                exact Q
