/-! partial proofs of the reference (wip/safe/vcp.py) -/
set_option maxHeartbeats 4000000 in
theorem w_2336 {T : Nat → Int} {L e i : Nat} {t : zK} {P : Nat → Nat} {s0 : zF} {kd ph : Int} {bg : Bool} {st : List zFm} (tk : Toks T L t.1 t.2.1 t.2.2 P e) (hT : s0 387 = T) (hL : s0 386 2 = (L : Int)) (A : ATT t P i s0) (M : AMR t P e i ((kd, ph, bg) :: st) s0) (h45 : s0 386 45 = 1) : p_2336 s0 (fun v g => OPG t P e (i, (kd, ph, bg) :: st, true) v g) := by
  obtain ⟨hi, -, h41, h42, ⟨f1, f2, f3, f4⟩, -⟩ := M
  have hl : (((kd, ph, bg) : zFm) :: st).length = st.length + 1 := rfl
  have hl2 : ∀ b : Bool, (((kd, ph, b) : zFm) :: st).length = st.length + 1 := fun _ => rfl
  have a8 := A.2.1
  have aa5 := A.2.2.2.1
  obtain ⟨k30, k31, k32⟩ := att_k3 A
  have fb := b01 f3
  refine ⟨fun g v19_1 v19_2 v19_3 => v19_1 = (st.length : Int) ∧ g = s0 ∧ v19_2 = kd ∧ (v19_3 = 0 ∨ v19_3 = 1) ∧ (¬ v19_3 = 0 → isT kd = true) ∧ (v19_3 = 0 → isT kd = false), fun g v175_1 v175_2 v175_3 => v175_1 = (st.length : Int) ∧ g = s0 ∧ v175_2 = kd ∧ (v175_3 = 0 ∨ v175_3 = 1) ∧ (¬ v175_3 = 0 → isT kd = true) ∧ (v175_3 = 0 → isT kd = false) ∧ ¬(ph < 2 ∧ opB t i = true), fun g v272_1 v272_2 v272_3 => v272_1 = (st.length : Int) ∧ g = s0 ∧ v272_2 = kd ∧ (v272_3 = 0 ∨ v272_3 = 1) ∧ (¬ v272_3 = 0 → isT kd = true) ∧ (v272_3 = 0 → isT kd = false) ∧ ¬(ph < 2 ∧ opB t i = true) ∧ ¬(isT kd = true ∧ ph = 0 ∧ cmB t i = true), fun g v387_1 v387_2 v387_3 => v387_1 = (st.length : Int) ∧ g = s0 ∧ v387_2 = kd ∧ (v387_3 = 0 ∨ v387_3 = 1) ∧ (¬ v387_3 = 0 → isT kd = true) ∧ (v387_3 = 0 → isT kd = false) ∧ ¬(ph < 2 ∧ opB t i = true) ∧ ¬(isT kd = true ∧ ph = 0 ∧ cmB t i = true) ∧ ¬(isT kd = true ∧ aoB t i = true), fun g v409_1 v409_2 => v409_1 = (st.length : Int) ∧ v409_2 = kd ∧ ¬(ph < 2 ∧ opB t i = true) ∧ ¬(isT kd = true ∧ ph = 0 ∧ cmB t i = true) ∧ ¬(isT kd = true ∧ aoB t i = true) ∧ (g = s0 ∧ ¬(isT kd = true ∧ ph = 0) ∨ isT kd = true ∧ ph = 0 ∧ g 386 8 = 1 ∧ g 386 9 = (flt t i).2), ?_, ?_, ?_, ?_, ?_, ?_⟩
  · skip
    intro x949 ex949 o2 o3 x953 ex953 o5 x959 ex959 o7 o8
    refine ⟨fun h9z => ?_, fun h9z => ?_⟩
    · skip
      refine ⟨fun h10z => ?_, fun h10z => ?_⟩
      · skip
        have ei : x953.toNat = st.length := by omega
        have ek : x959 = kd := by rw [ex959, ei, f1]
        exact ⟨by omega, rfl, ek, Or.inl rfl, fun z => absurd rfl z, fun _ => isT_0 (by omega) (by omega)⟩
      · skip
        have ei : x953.toNat = st.length := by omega
        have ek : x959 = kd := by rw [ex959, ei, f1]
        exact ⟨by omega, rfl, ek, Or.inr rfl, fun _ => isT_1 (by omega), fun z => absurd z (by decide)⟩
    · skip
      have ei : x953.toNat = st.length := by omega
      have ek : x959 = kd := by rw [ex959, ei, f1]
      exact ⟨by omega, rfl, ek, Or.inr rfl, fun _ => isT_1 (by omega), fun z => absurd z (by decide)⟩
  · intro g v19_1 v19_2 v19_3 rg o1 o2 o3 o4 o5 o6 hI
    obtain ⟨hv1, hg, hv2, fa, fc, fd⟩ := hI
    subst hg
    have ev : v19_1.toNat = st.length := by omega
    intro x4 ex4 o8 o9
    refine ⟨fun h10z => ?_, fun h10z => ?_⟩
    · skip
      intro x6 ex6 o12 o13
      refine ⟨fun h14z => ?_, fun h14z => ?_⟩
      · skip
        have ep : x4 = ph := by rw [ex4, ev, f2]
        exact ⟨hv1, rfl, hv2, fa, fc, fd, fun z => by
          rw [opB_no (att_nsg A (by decide) (fun y => by omega)) (att_nsg A (by decide) (fun y => by omega)) (att_nsg A (by decide) (fun y => by omega)) (att_nsg A (by decide) (fun y => by omega)) (att_nsg A (by decide) (fun y => by omega))] at z
          exact absurd z.2 (by decide)⟩
      · skip
        intro x11 ex11
        refine ⟨fun h16z => ?_, fun h16z => ?_⟩
        · skip
          refine ⟨fun h17z => ?_, fun h17z => ?_⟩
          · skip
            refine ⟨fun h18z => ?_, fun h18z => ?_⟩
            · skip
              refine ⟨fun h19z => ?_, fun h19z => ?_⟩
              · skip
                refine ⟨fun h20z => ?_, fun h20z => ?_⟩
                · skip
                  have ep : x4 = ph := by rw [ex4, ev, f2]
                  exact ⟨hv1, rfl, hv2, fa, fc, fd, fun z => by
                    rw [opB_no (att_nsg A (by decide) (fun y => by omega)) (att_nsg A (by decide) (fun y => by omega)) (att_nsg A (by decide) (fun y => by omega)) (att_nsg A (by decide) (fun y => by omega)) (att_nsg A (by decide) (fun y => by omega))] at z
                    exact absurd z.2 (by decide)⟩
                · skip
                  intro g25 rg25
                  intro g34 rg34
                  refine ⟨fun g' => AH (g34 387) (g34 386 2).toNat (g34 386 5).toNat g', ?_, ?_⟩
                  · skip
                    have A0_ := A
                    have T0 := hT
                    have L0 := hL
                    have F0 : FRS ((kd, ph, bg) :: st) g := ⟨f1, f2, f3, f4⟩
                    have d0 : g 386 41 = (st.length : Int) + 1 := by omega
                    have u0 : g 386 42 = (st.length : Int) := by omega
                    have o0 := h45
                    have A1 : ATT t P i g25 := ATT_fr A0_ fun k k1 k2 => rg25.s (by
                      have hc : k = 3 ∨ k = 4 ∨ k = 5 ∨ k = 6 ∨ k = 7 ∨ k = 8 := by omega
                      rcases hc with z | z | z | z | z | z <;> subst z <;> decide)
                    have T1 := (rg25.a (a := 387) (by decide)).trans T0
                    have L1 := (rg25.s (a := 386) (k := 2) (by decide)).trans L0
                    have F1 := FRS_eq (rg25.a (by decide)) (rg25.a (by decide)) (rg25.a (by decide)) F0
                    have d1 := (rg25.s (a := 386) (k := 41) (by decide)).trans d0
                    have u1 := (rg25.s (a := 386) (k := 42) (by decide)).trans u0
                    have o1 := (rg25.s (a := 386) (k := 45) (by decide)).trans o0
                    have A2 : ATT t P i g34 := ATT_fr A1 fun k k1 k2 => rg34.s (by
                      have hc : k = 3 ∨ k = 4 ∨ k = 5 ∨ k = 6 ∨ k = 7 ∨ k = 8 := by omega
                      rcases hc with z | z | z | z | z | z <;> subst z <;> decide)
                    have T2 := (rg34.a (a := 387) (by decide)).trans T1
                    have L2 := (rg34.s (a := 386) (k := 2) (by decide)).trans L1
                    have F2 := FRS_eq (rg34.a (by decide)) (rg34.a (by decide)) (rg34.a (by decide)) F1
                    have d2 := (rg34.s (a := 386) (k := 41) (by decide)).trans d1
                    have u2 := (rg34.s (a := 386) (k := 42) (by decide)).trans u1
                    have o2 := (rg34.s (a := 386) (k := 45) (by decide)).trans o1
                    have aa8 := A2.2.1
                    have aa9 := A2.2.2.2.1
                    exact w_2310 (by omega) (by omega) (by omega)
                  · skip
                    intro g41 rg41 qg41 g47 eg47
                    have ep : x4 = ph := by rw [ex4, ev, f2]
                    have sg : sgB t 37 i = true := (att_sg A (by decide)).mpr ⟨by omega, by omega⟩
                    have k5 := (sgB_iff.mp sg).1
                    have A0_ := A
                    have T0 := hT
                    have L0 := hL
                    have F0 : FRS ((kd, ph, bg) :: st) g := ⟨f1, f2, f3, f4⟩
                    have d0 : g 386 41 = (st.length : Int) + 1 := by omega
                    have u0 : g 386 42 = (st.length : Int) := by omega
                    have o0 := h45
                    have A1 : ATT t P i g25 := ATT_fr A0_ fun k k1 k2 => rg25.s (by
                      have hc : k = 3 ∨ k = 4 ∨ k = 5 ∨ k = 6 ∨ k = 7 ∨ k = 8 := by omega
                      rcases hc with z | z | z | z | z | z <;> subst z <;> decide)
                    have T1 := (rg25.a (a := 387) (by decide)).trans T0
                    have L1 := (rg25.s (a := 386) (k := 2) (by decide)).trans L0
                    have F1 := FRS_eq (rg25.a (by decide)) (rg25.a (by decide)) (rg25.a (by decide)) F0
                    have d1 := (rg25.s (a := 386) (k := 41) (by decide)).trans d0
                    have u1 := (rg25.s (a := 386) (k := 42) (by decide)).trans u0
                    have o1 := (rg25.s (a := 386) (k := 45) (by decide)).trans o0
                    have A2 : ATT t P i g34 := ATT_fr A1 fun k k1 k2 => rg34.s (by
                      have hc : k = 3 ∨ k = 4 ∨ k = 5 ∨ k = 6 ∨ k = 7 ∨ k = 8 := by omega
                      rcases hc with z | z | z | z | z | z <;> subst z <;> decide)
                    have T2 := (rg34.a (a := 387) (by decide)).trans T1
                    have L2 := (rg34.s (a := 386) (k := 2) (by decide)).trans L1
                    have F2 := FRS_eq (rg34.a (by decide)) (rg34.a (by decide)) (rg34.a (by decide)) F1
                    have d2 := (rg34.s (a := 386) (k := 41) (by decide)).trans d1
                    have u2 := (rg34.s (a := 386) (k := 42) (by decide)).trans u1
                    have o2 := (rg34.s (a := 386) (k := 45) (by decide)).trans o1
                    have ha : AH T L (g34 386 5).toNat g41 := by
                      have z : AH (g34 387) (g34 386 2).toNat (g34 386 5).toNat g41 := qg41
                      rw [T2, L2] at z
                      exact z
                    have R3 : RSq t P e (.inl (i + 1)) g41 := rs_next (F := fun k => .inl (k + 1)) tk A2 hi (by omega) (by omega) rfl ha
                    have F3 := FRS_eq (rg41.a (by decide)) (rg41.a (by decide)) (rg41.a (by decide)) F2
                    have d3 := (rg41.s (a := 386) (k := 41) (by decide)).trans d2
                    have u3 := (rg41.s (a := 386) (k := 42) (by decide)).trans u2
                    have o3 := (rg41.s (a := 386) (k := 45) (by decide)).trans o2
                    have R4 : RSq t P e (.inl (i + 1)) g47 := by
                      rw [eg47]
                      exact RSq_sl R3 (by decide)
                    have F4 := FRS_o (a := 386) (m := 45) (v := 0) (by decide) F3
                    rw [← eg47] at F4
                    have d4 : g47 386 41 = (st.length : Int) + 1 := by
                      rw [eg47, zup_ne (Or.inr (by decide))]
                      exact d3
                    have u4 : g47 386 42 = (st.length : Int) := by
                      rw [eg47, zup_ne (Or.inr (by decide))]
                      exact u3
                    have o4 : g47 386 45 = 0 := by
                      rw [eg47, zup_eq]
                    exact Or.inl ⟨rfl, _, _, _, am_op (by omega) (opB_of (by decide) sg), ⟨R4.1, R4.2, by rw [d4, hl]; omega, by rw [u4, hl]; omega, F4, by simp⟩, o4⟩
              · skip
                intro g53 rg53
                intro g62 rg62
                refine ⟨fun g' => AH (g62 387) (g62 386 2).toNat (g62 386 5).toNat g', ?_, ?_⟩
                · skip
                  have A0_ := A
                  have T0 := hT
                  have L0 := hL
                  have F0 : FRS ((kd, ph, bg) :: st) g := ⟨f1, f2, f3, f4⟩
                  have d0 : g 386 41 = (st.length : Int) + 1 := by omega
                  have u0 : g 386 42 = (st.length : Int) := by omega
                  have o0 := h45
                  have A1 : ATT t P i g53 := ATT_fr A0_ fun k k1 k2 => rg53.s (by
                    have hc : k = 3 ∨ k = 4 ∨ k = 5 ∨ k = 6 ∨ k = 7 ∨ k = 8 := by omega
                    rcases hc with z | z | z | z | z | z <;> subst z <;> decide)
                  have T1 := (rg53.a (a := 387) (by decide)).trans T0
                  have L1 := (rg53.s (a := 386) (k := 2) (by decide)).trans L0
                  have F1 := FRS_eq (rg53.a (by decide)) (rg53.a (by decide)) (rg53.a (by decide)) F0
                  have d1 := (rg53.s (a := 386) (k := 41) (by decide)).trans d0
                  have u1 := (rg53.s (a := 386) (k := 42) (by decide)).trans u0
                  have o1 := (rg53.s (a := 386) (k := 45) (by decide)).trans o0
                  have A2 : ATT t P i g62 := ATT_fr A1 fun k k1 k2 => rg62.s (by
                    have hc : k = 3 ∨ k = 4 ∨ k = 5 ∨ k = 6 ∨ k = 7 ∨ k = 8 := by omega
                    rcases hc with z | z | z | z | z | z <;> subst z <;> decide)
                  have T2 := (rg62.a (a := 387) (by decide)).trans T1
                  have L2 := (rg62.s (a := 386) (k := 2) (by decide)).trans L1
                  have F2 := FRS_eq (rg62.a (by decide)) (rg62.a (by decide)) (rg62.a (by decide)) F1
                  have d2 := (rg62.s (a := 386) (k := 41) (by decide)).trans d1
                  have u2 := (rg62.s (a := 386) (k := 42) (by decide)).trans u1
                  have o2 := (rg62.s (a := 386) (k := 45) (by decide)).trans o1
                  have aa8 := A2.2.1
                  have aa9 := A2.2.2.2.1
                  exact w_2310 (by omega) (by omega) (by omega)
                · skip
                  intro g69 rg69 qg69 g75 eg75
                  have ep : x4 = ph := by rw [ex4, ev, f2]
                  have sg : sgB t 47 i = true := (att_sg A (by decide)).mpr ⟨by omega, by omega⟩
                  have k5 := (sgB_iff.mp sg).1
                  have A0_ := A
                  have T0 := hT
                  have L0 := hL
                  have F0 : FRS ((kd, ph, bg) :: st) g := ⟨f1, f2, f3, f4⟩
                  have d0 : g 386 41 = (st.length : Int) + 1 := by omega
                  have u0 : g 386 42 = (st.length : Int) := by omega
                  have o0 := h45
                  have A1 : ATT t P i g53 := ATT_fr A0_ fun k k1 k2 => rg53.s (by
                    have hc : k = 3 ∨ k = 4 ∨ k = 5 ∨ k = 6 ∨ k = 7 ∨ k = 8 := by omega
                    rcases hc with z | z | z | z | z | z <;> subst z <;> decide)
                  have T1 := (rg53.a (a := 387) (by decide)).trans T0
                  have L1 := (rg53.s (a := 386) (k := 2) (by decide)).trans L0
                  have F1 := FRS_eq (rg53.a (by decide)) (rg53.a (by decide)) (rg53.a (by decide)) F0
                  have d1 := (rg53.s (a := 386) (k := 41) (by decide)).trans d0
                  have u1 := (rg53.s (a := 386) (k := 42) (by decide)).trans u0
                  have o1 := (rg53.s (a := 386) (k := 45) (by decide)).trans o0
                  have A2 : ATT t P i g62 := ATT_fr A1 fun k k1 k2 => rg62.s (by
                    have hc : k = 3 ∨ k = 4 ∨ k = 5 ∨ k = 6 ∨ k = 7 ∨ k = 8 := by omega
                    rcases hc with z | z | z | z | z | z <;> subst z <;> decide)
                  have T2 := (rg62.a (a := 387) (by decide)).trans T1
                  have L2 := (rg62.s (a := 386) (k := 2) (by decide)).trans L1
                  have F2 := FRS_eq (rg62.a (by decide)) (rg62.a (by decide)) (rg62.a (by decide)) F1
                  have d2 := (rg62.s (a := 386) (k := 41) (by decide)).trans d1
                  have u2 := (rg62.s (a := 386) (k := 42) (by decide)).trans u1
                  have o2 := (rg62.s (a := 386) (k := 45) (by decide)).trans o1
                  have ha : AH T L (g62 386 5).toNat g69 := by
                    have z : AH (g62 387) (g62 386 2).toNat (g62 386 5).toNat g69 := qg69
                    rw [T2, L2] at z
                    exact z
                  have R3 : RSq t P e (.inl (i + 1)) g69 := rs_next (F := fun k => .inl (k + 1)) tk A2 hi (by omega) (by omega) rfl ha
                  have F3 := FRS_eq (rg69.a (by decide)) (rg69.a (by decide)) (rg69.a (by decide)) F2
                  have d3 := (rg69.s (a := 386) (k := 41) (by decide)).trans d2
                  have u3 := (rg69.s (a := 386) (k := 42) (by decide)).trans u2
                  have o3 := (rg69.s (a := 386) (k := 45) (by decide)).trans o2
                  have R4 : RSq t P e (.inl (i + 1)) g75 := by
                    rw [eg75]
                    exact RSq_sl R3 (by decide)
                  have F4 := FRS_o (a := 386) (m := 45) (v := 0) (by decide) F3
                  rw [← eg75] at F4
                  have d4 : g75 386 41 = (st.length : Int) + 1 := by
                    rw [eg75, zup_ne (Or.inr (by decide))]
                    exact d3
                  have u4 : g75 386 42 = (st.length : Int) := by
                    rw [eg75, zup_ne (Or.inr (by decide))]
                    exact u3
                  have o4 : g75 386 45 = 0 := by
                    rw [eg75, zup_eq]
                  exact Or.inl ⟨rfl, _, _, _, am_op (by omega) (opB_of (by decide) sg), ⟨R4.1, R4.2, by rw [d4, hl]; omega, by rw [u4, hl]; omega, F4, by simp⟩, o4⟩
            · skip
              intro g81 rg81
              intro g90 rg90
              refine ⟨fun g' => AH (g90 387) (g90 386 2).toNat (g90 386 5).toNat g', ?_, ?_⟩
              · skip
                have A0_ := A
                have T0 := hT
                have L0 := hL
                have F0 : FRS ((kd, ph, bg) :: st) g := ⟨f1, f2, f3, f4⟩
                have d0 : g 386 41 = (st.length : Int) + 1 := by omega
                have u0 : g 386 42 = (st.length : Int) := by omega
                have o0 := h45
                have A1 : ATT t P i g81 := ATT_fr A0_ fun k k1 k2 => rg81.s (by
                  have hc : k = 3 ∨ k = 4 ∨ k = 5 ∨ k = 6 ∨ k = 7 ∨ k = 8 := by omega
                  rcases hc with z | z | z | z | z | z <;> subst z <;> decide)
                have T1 := (rg81.a (a := 387) (by decide)).trans T0
                have L1 := (rg81.s (a := 386) (k := 2) (by decide)).trans L0
                have F1 := FRS_eq (rg81.a (by decide)) (rg81.a (by decide)) (rg81.a (by decide)) F0
                have d1 := (rg81.s (a := 386) (k := 41) (by decide)).trans d0
                have u1 := (rg81.s (a := 386) (k := 42) (by decide)).trans u0
                have o1 := (rg81.s (a := 386) (k := 45) (by decide)).trans o0
                have A2 : ATT t P i g90 := ATT_fr A1 fun k k1 k2 => rg90.s (by
                  have hc : k = 3 ∨ k = 4 ∨ k = 5 ∨ k = 6 ∨ k = 7 ∨ k = 8 := by omega
                  rcases hc with z | z | z | z | z | z <;> subst z <;> decide)
                have T2 := (rg90.a (a := 387) (by decide)).trans T1
                have L2 := (rg90.s (a := 386) (k := 2) (by decide)).trans L1
                have F2 := FRS_eq (rg90.a (by decide)) (rg90.a (by decide)) (rg90.a (by decide)) F1
                have d2 := (rg90.s (a := 386) (k := 41) (by decide)).trans d1
                have u2 := (rg90.s (a := 386) (k := 42) (by decide)).trans u1
                have o2 := (rg90.s (a := 386) (k := 45) (by decide)).trans o1
                have aa8 := A2.2.1
                have aa9 := A2.2.2.2.1
                exact w_2310 (by omega) (by omega) (by omega)
              · skip
                intro g97 rg97 qg97 g103 eg103
                have ep : x4 = ph := by rw [ex4, ev, f2]
                have sg : sgB t 42 i = true := (att_sg A (by decide)).mpr ⟨by omega, by omega⟩
                have k5 := (sgB_iff.mp sg).1
                have A0_ := A
                have T0 := hT
                have L0 := hL
                have F0 : FRS ((kd, ph, bg) :: st) g := ⟨f1, f2, f3, f4⟩
                have d0 : g 386 41 = (st.length : Int) + 1 := by omega
                have u0 : g 386 42 = (st.length : Int) := by omega
                have o0 := h45
                have A1 : ATT t P i g81 := ATT_fr A0_ fun k k1 k2 => rg81.s (by
                  have hc : k = 3 ∨ k = 4 ∨ k = 5 ∨ k = 6 ∨ k = 7 ∨ k = 8 := by omega
                  rcases hc with z | z | z | z | z | z <;> subst z <;> decide)
                have T1 := (rg81.a (a := 387) (by decide)).trans T0
                have L1 := (rg81.s (a := 386) (k := 2) (by decide)).trans L0
                have F1 := FRS_eq (rg81.a (by decide)) (rg81.a (by decide)) (rg81.a (by decide)) F0
                have d1 := (rg81.s (a := 386) (k := 41) (by decide)).trans d0
                have u1 := (rg81.s (a := 386) (k := 42) (by decide)).trans u0
                have o1 := (rg81.s (a := 386) (k := 45) (by decide)).trans o0
                have A2 : ATT t P i g90 := ATT_fr A1 fun k k1 k2 => rg90.s (by
                  have hc : k = 3 ∨ k = 4 ∨ k = 5 ∨ k = 6 ∨ k = 7 ∨ k = 8 := by omega
                  rcases hc with z | z | z | z | z | z <;> subst z <;> decide)
                have T2 := (rg90.a (a := 387) (by decide)).trans T1
                have L2 := (rg90.s (a := 386) (k := 2) (by decide)).trans L1
                have F2 := FRS_eq (rg90.a (by decide)) (rg90.a (by decide)) (rg90.a (by decide)) F1
                have d2 := (rg90.s (a := 386) (k := 41) (by decide)).trans d1
                have u2 := (rg90.s (a := 386) (k := 42) (by decide)).trans u1
                have o2 := (rg90.s (a := 386) (k := 45) (by decide)).trans o1
                have ha : AH T L (g90 386 5).toNat g97 := by
                  have z : AH (g90 387) (g90 386 2).toNat (g90 386 5).toNat g97 := qg97
                  rw [T2, L2] at z
                  exact z
                have R3 : RSq t P e (.inl (i + 1)) g97 := rs_next (F := fun k => .inl (k + 1)) tk A2 hi (by omega) (by omega) rfl ha
                have F3 := FRS_eq (rg97.a (by decide)) (rg97.a (by decide)) (rg97.a (by decide)) F2
                have d3 := (rg97.s (a := 386) (k := 41) (by decide)).trans d2
                have u3 := (rg97.s (a := 386) (k := 42) (by decide)).trans u2
                have o3 := (rg97.s (a := 386) (k := 45) (by decide)).trans o2
                have R4 : RSq t P e (.inl (i + 1)) g103 := by
                  rw [eg103]
                  exact RSq_sl R3 (by decide)
                have F4 := FRS_o (a := 386) (m := 45) (v := 0) (by decide) F3
                rw [← eg103] at F4
                have d4 : g103 386 41 = (st.length : Int) + 1 := by
                  rw [eg103, zup_ne (Or.inr (by decide))]
                  exact d3
                have u4 : g103 386 42 = (st.length : Int) := by
                  rw [eg103, zup_ne (Or.inr (by decide))]
                  exact u3
                have o4 : g103 386 45 = 0 := by
                  rw [eg103, zup_eq]
                exact Or.inl ⟨rfl, _, _, _, am_op (by omega) (opB_of (by decide) sg), ⟨R4.1, R4.2, by rw [d4, hl]; omega, by rw [u4, hl]; omega, F4, by simp⟩, o4⟩
          · skip
            intro g109 rg109
            intro g118 rg118
            refine ⟨fun g' => AH (g118 387) (g118 386 2).toNat (g118 386 5).toNat g', ?_, ?_⟩
            · skip
              have A0_ := A
              have T0 := hT
              have L0 := hL
              have F0 : FRS ((kd, ph, bg) :: st) g := ⟨f1, f2, f3, f4⟩
              have d0 : g 386 41 = (st.length : Int) + 1 := by omega
              have u0 : g 386 42 = (st.length : Int) := by omega
              have o0 := h45
              have A1 : ATT t P i g109 := ATT_fr A0_ fun k k1 k2 => rg109.s (by
                have hc : k = 3 ∨ k = 4 ∨ k = 5 ∨ k = 6 ∨ k = 7 ∨ k = 8 := by omega
                rcases hc with z | z | z | z | z | z <;> subst z <;> decide)
              have T1 := (rg109.a (a := 387) (by decide)).trans T0
              have L1 := (rg109.s (a := 386) (k := 2) (by decide)).trans L0
              have F1 := FRS_eq (rg109.a (by decide)) (rg109.a (by decide)) (rg109.a (by decide)) F0
              have d1 := (rg109.s (a := 386) (k := 41) (by decide)).trans d0
              have u1 := (rg109.s (a := 386) (k := 42) (by decide)).trans u0
              have o1 := (rg109.s (a := 386) (k := 45) (by decide)).trans o0
              have A2 : ATT t P i g118 := ATT_fr A1 fun k k1 k2 => rg118.s (by
                have hc : k = 3 ∨ k = 4 ∨ k = 5 ∨ k = 6 ∨ k = 7 ∨ k = 8 := by omega
                rcases hc with z | z | z | z | z | z <;> subst z <;> decide)
              have T2 := (rg118.a (a := 387) (by decide)).trans T1
              have L2 := (rg118.s (a := 386) (k := 2) (by decide)).trans L1
              have F2 := FRS_eq (rg118.a (by decide)) (rg118.a (by decide)) (rg118.a (by decide)) F1
              have d2 := (rg118.s (a := 386) (k := 41) (by decide)).trans d1
              have u2 := (rg118.s (a := 386) (k := 42) (by decide)).trans u1
              have o2 := (rg118.s (a := 386) (k := 45) (by decide)).trans o1
              have aa8 := A2.2.1
              have aa9 := A2.2.2.2.1
              exact w_2310 (by omega) (by omega) (by omega)
            · skip
              intro g125 rg125 qg125 g131 eg131
              have ep : x4 = ph := by rw [ex4, ev, f2]
              have sg : sgB t 45 i = true := (att_sg A (by decide)).mpr ⟨by omega, by omega⟩
              have k5 := (sgB_iff.mp sg).1
              have A0_ := A
              have T0 := hT
              have L0 := hL
              have F0 : FRS ((kd, ph, bg) :: st) g := ⟨f1, f2, f3, f4⟩
              have d0 : g 386 41 = (st.length : Int) + 1 := by omega
              have u0 : g 386 42 = (st.length : Int) := by omega
              have o0 := h45
              have A1 : ATT t P i g109 := ATT_fr A0_ fun k k1 k2 => rg109.s (by
                have hc : k = 3 ∨ k = 4 ∨ k = 5 ∨ k = 6 ∨ k = 7 ∨ k = 8 := by omega
                rcases hc with z | z | z | z | z | z <;> subst z <;> decide)
              have T1 := (rg109.a (a := 387) (by decide)).trans T0
              have L1 := (rg109.s (a := 386) (k := 2) (by decide)).trans L0
              have F1 := FRS_eq (rg109.a (by decide)) (rg109.a (by decide)) (rg109.a (by decide)) F0
              have d1 := (rg109.s (a := 386) (k := 41) (by decide)).trans d0
              have u1 := (rg109.s (a := 386) (k := 42) (by decide)).trans u0
              have o1 := (rg109.s (a := 386) (k := 45) (by decide)).trans o0
              have A2 : ATT t P i g118 := ATT_fr A1 fun k k1 k2 => rg118.s (by
                have hc : k = 3 ∨ k = 4 ∨ k = 5 ∨ k = 6 ∨ k = 7 ∨ k = 8 := by omega
                rcases hc with z | z | z | z | z | z <;> subst z <;> decide)
              have T2 := (rg118.a (a := 387) (by decide)).trans T1
              have L2 := (rg118.s (a := 386) (k := 2) (by decide)).trans L1
              have F2 := FRS_eq (rg118.a (by decide)) (rg118.a (by decide)) (rg118.a (by decide)) F1
              have d2 := (rg118.s (a := 386) (k := 41) (by decide)).trans d1
              have u2 := (rg118.s (a := 386) (k := 42) (by decide)).trans u1
              have o2 := (rg118.s (a := 386) (k := 45) (by decide)).trans o1
              have ha : AH T L (g118 386 5).toNat g125 := by
                have z : AH (g118 387) (g118 386 2).toNat (g118 386 5).toNat g125 := qg125
                rw [T2, L2] at z
                exact z
              have R3 : RSq t P e (.inl (i + 1)) g125 := rs_next (F := fun k => .inl (k + 1)) tk A2 hi (by omega) (by omega) rfl ha
              have F3 := FRS_eq (rg125.a (by decide)) (rg125.a (by decide)) (rg125.a (by decide)) F2
              have d3 := (rg125.s (a := 386) (k := 41) (by decide)).trans d2
              have u3 := (rg125.s (a := 386) (k := 42) (by decide)).trans u2
              have o3 := (rg125.s (a := 386) (k := 45) (by decide)).trans o2
              have R4 : RSq t P e (.inl (i + 1)) g131 := by
                rw [eg131]
                exact RSq_sl R3 (by decide)
              have F4 := FRS_o (a := 386) (m := 45) (v := 0) (by decide) F3
              rw [← eg131] at F4
              have d4 : g131 386 41 = (st.length : Int) + 1 := by
                rw [eg131, zup_ne (Or.inr (by decide))]
                exact d3
              have u4 : g131 386 42 = (st.length : Int) := by
                rw [eg131, zup_ne (Or.inr (by decide))]
                exact u3
              have o4 : g131 386 45 = 0 := by
                rw [eg131, zup_eq]
              exact Or.inl ⟨rfl, _, _, _, am_op (by omega) (opB_of (by decide) sg), ⟨R4.1, R4.2, by rw [d4, hl]; omega, by rw [u4, hl]; omega, F4, by simp⟩, o4⟩
        · skip
          intro g137 rg137
          intro g146 rg146
          refine ⟨fun g' => AH (g146 387) (g146 386 2).toNat (g146 386 5).toNat g', ?_, ?_⟩
          · skip
            have A0_ := A
            have T0 := hT
            have L0 := hL
            have F0 : FRS ((kd, ph, bg) :: st) g := ⟨f1, f2, f3, f4⟩
            have d0 : g 386 41 = (st.length : Int) + 1 := by omega
            have u0 : g 386 42 = (st.length : Int) := by omega
            have o0 := h45
            have A1 : ATT t P i g137 := ATT_fr A0_ fun k k1 k2 => rg137.s (by
              have hc : k = 3 ∨ k = 4 ∨ k = 5 ∨ k = 6 ∨ k = 7 ∨ k = 8 := by omega
              rcases hc with z | z | z | z | z | z <;> subst z <;> decide)
            have T1 := (rg137.a (a := 387) (by decide)).trans T0
            have L1 := (rg137.s (a := 386) (k := 2) (by decide)).trans L0
            have F1 := FRS_eq (rg137.a (by decide)) (rg137.a (by decide)) (rg137.a (by decide)) F0
            have d1 := (rg137.s (a := 386) (k := 41) (by decide)).trans d0
            have u1 := (rg137.s (a := 386) (k := 42) (by decide)).trans u0
            have o1 := (rg137.s (a := 386) (k := 45) (by decide)).trans o0
            have A2 : ATT t P i g146 := ATT_fr A1 fun k k1 k2 => rg146.s (by
              have hc : k = 3 ∨ k = 4 ∨ k = 5 ∨ k = 6 ∨ k = 7 ∨ k = 8 := by omega
              rcases hc with z | z | z | z | z | z <;> subst z <;> decide)
            have T2 := (rg146.a (a := 387) (by decide)).trans T1
            have L2 := (rg146.s (a := 386) (k := 2) (by decide)).trans L1
            have F2 := FRS_eq (rg146.a (by decide)) (rg146.a (by decide)) (rg146.a (by decide)) F1
            have d2 := (rg146.s (a := 386) (k := 41) (by decide)).trans d1
            have u2 := (rg146.s (a := 386) (k := 42) (by decide)).trans u1
            have o2 := (rg146.s (a := 386) (k := 45) (by decide)).trans o1
            have aa8 := A2.2.1
            have aa9 := A2.2.2.2.1
            exact w_2310 (by omega) (by omega) (by omega)
          · skip
            intro g153 rg153 qg153 g159 eg159
            have ep : x4 = ph := by rw [ex4, ev, f2]
            have sg : sgB t 43 i = true := (att_sg A (by decide)).mpr ⟨by omega, by omega⟩
            have k5 := (sgB_iff.mp sg).1
            have A0_ := A
            have T0 := hT
            have L0 := hL
            have F0 : FRS ((kd, ph, bg) :: st) g := ⟨f1, f2, f3, f4⟩
            have d0 : g 386 41 = (st.length : Int) + 1 := by omega
            have u0 : g 386 42 = (st.length : Int) := by omega
            have o0 := h45
            have A1 : ATT t P i g137 := ATT_fr A0_ fun k k1 k2 => rg137.s (by
              have hc : k = 3 ∨ k = 4 ∨ k = 5 ∨ k = 6 ∨ k = 7 ∨ k = 8 := by omega
              rcases hc with z | z | z | z | z | z <;> subst z <;> decide)
            have T1 := (rg137.a (a := 387) (by decide)).trans T0
            have L1 := (rg137.s (a := 386) (k := 2) (by decide)).trans L0
            have F1 := FRS_eq (rg137.a (by decide)) (rg137.a (by decide)) (rg137.a (by decide)) F0
            have d1 := (rg137.s (a := 386) (k := 41) (by decide)).trans d0
            have u1 := (rg137.s (a := 386) (k := 42) (by decide)).trans u0
            have o1 := (rg137.s (a := 386) (k := 45) (by decide)).trans o0
            have A2 : ATT t P i g146 := ATT_fr A1 fun k k1 k2 => rg146.s (by
              have hc : k = 3 ∨ k = 4 ∨ k = 5 ∨ k = 6 ∨ k = 7 ∨ k = 8 := by omega
              rcases hc with z | z | z | z | z | z <;> subst z <;> decide)
            have T2 := (rg146.a (a := 387) (by decide)).trans T1
            have L2 := (rg146.s (a := 386) (k := 2) (by decide)).trans L1
            have F2 := FRS_eq (rg146.a (by decide)) (rg146.a (by decide)) (rg146.a (by decide)) F1
            have d2 := (rg146.s (a := 386) (k := 41) (by decide)).trans d1
            have u2 := (rg146.s (a := 386) (k := 42) (by decide)).trans u1
            have o2 := (rg146.s (a := 386) (k := 45) (by decide)).trans o1
            have ha : AH T L (g146 386 5).toNat g153 := by
              have z : AH (g146 387) (g146 386 2).toNat (g146 386 5).toNat g153 := qg153
              rw [T2, L2] at z
              exact z
            have R3 : RSq t P e (.inl (i + 1)) g153 := rs_next (F := fun k => .inl (k + 1)) tk A2 hi (by omega) (by omega) rfl ha
            have F3 := FRS_eq (rg153.a (by decide)) (rg153.a (by decide)) (rg153.a (by decide)) F2
            have d3 := (rg153.s (a := 386) (k := 41) (by decide)).trans d2
            have u3 := (rg153.s (a := 386) (k := 42) (by decide)).trans u2
            have o3 := (rg153.s (a := 386) (k := 45) (by decide)).trans o2
            have R4 : RSq t P e (.inl (i + 1)) g159 := by
              rw [eg159]
              exact RSq_sl R3 (by decide)
            have F4 := FRS_o (a := 386) (m := 45) (v := 0) (by decide) F3
            rw [← eg159] at F4
            have d4 : g159 386 41 = (st.length : Int) + 1 := by
              rw [eg159, zup_ne (Or.inr (by decide))]
              exact d3
            have u4 : g159 386 42 = (st.length : Int) := by
              rw [eg159, zup_ne (Or.inr (by decide))]
              exact u3
            have o4 : g159 386 45 = 0 := by
              rw [eg159, zup_eq]
            exact Or.inl ⟨rfl, _, _, _, am_op (by omega) (opB_of (by decide) sg), ⟨R4.1, R4.2, by rw [d4, hl]; omega, by rw [u4, hl]; omega, F4, by simp⟩, o4⟩
    · skip
      have ep : x4 = ph := by rw [ex4, ev, f2]
      exact ⟨hv1, rfl, hv2, fa, fc, fd, fun z => absurd z.1 (by omega)⟩
  · intro g v175_1 v175_2 v175_3 rg o1 o2 o3 o4 o5 o6 hI
    obtain ⟨hv1, hg, hv2, fa, fc, fd, n1⟩ := hI
    subst hg
    have ev : v175_1.toNat = st.length := by omega
    refine ⟨fun h7z => ?_, fun h7z => ?_⟩
    · skip
      intro x164 ex164 o9 o10
      refine ⟨fun h11z => ?_, fun h11z => ?_⟩
      · skip
        have ep : x164 = ph := by rw [ex164, ev, f2]
        exact ⟨hv1, rfl, hv2, fa, fc, fd, n1, fun z => absurd z.2.1 (by omega)⟩
      · skip
        intro x166 ex166 o13 o14
        refine ⟨fun h15z => ?_, fun h15z => ?_⟩
        · skip
          have ep : x164 = ph := by rw [ex164, ev, f2]
          exact ⟨hv1, rfl, hv2, fa, fc, fd, n1, fun z => by
            rw [cmB_no (att_nsg A (by decide) (fun y => by omega)) (att_nsg A (by decide) (fun y => by omega)) (att_nsg A (by decide) (fun y => by omega))] at z
            exact absurd z.2.2 (by decide)⟩
        · skip
          intro x171 ex171
          refine ⟨fun h17z => ?_, fun h17z => ?_⟩
          · skip
            refine ⟨fun h18z => ?_, fun h18z => ?_⟩
            · skip
              refine ⟨fun h19z => ?_, fun h19z => ?_⟩
              · skip
                have ep : x164 = ph := by rw [ex164, ev, f2]
                exact ⟨hv1, rfl, hv2, fa, fc, fd, n1, fun z => by
                  rw [cmB_no (att_nsg A (by decide) (fun y => by omega)) (att_nsg A (by decide) (fun y => by omega)) (att_nsg A (by decide) (fun y => by omega))] at z
                  exact absurd z.2.2 (by decide)⟩
              · skip
                intro g183 rg183
                intro g192 rg192 g198 eg198
                refine ⟨fun g' => AH (g198 387) (g198 386 2).toNat (g198 386 5).toNat g', ?_, ?_⟩
                · skip
                  have A0_ := A
                  have T0 := hT
                  have L0 := hL
                  have F0 : FRS ((kd, ph, bg) :: st) g := ⟨f1, f2, f3, f4⟩
                  have d0 : g 386 41 = (st.length : Int) + 1 := by omega
                  have u0 : g 386 42 = (st.length : Int) := by omega
                  have o0 := h45
                  have A1 : ATT t P i g183 := ATT_fr A0_ fun k k1 k2 => rg183.s (by
                    have hc : k = 3 ∨ k = 4 ∨ k = 5 ∨ k = 6 ∨ k = 7 ∨ k = 8 := by omega
                    rcases hc with z | z | z | z | z | z <;> subst z <;> decide)
                  have T1 := (rg183.a (a := 387) (by decide)).trans T0
                  have L1 := (rg183.s (a := 386) (k := 2) (by decide)).trans L0
                  have F1 := FRS_eq (rg183.a (by decide)) (rg183.a (by decide)) (rg183.a (by decide)) F0
                  have d1 := (rg183.s (a := 386) (k := 41) (by decide)).trans d0
                  have u1 := (rg183.s (a := 386) (k := 42) (by decide)).trans u0
                  have o1 := (rg183.s (a := 386) (k := 45) (by decide)).trans o0
                  have A2 : ATT t P i g192 := ATT_fr A1 fun k k1 k2 => rg192.s (by
                    have hc : k = 3 ∨ k = 4 ∨ k = 5 ∨ k = 6 ∨ k = 7 ∨ k = 8 := by omega
                    rcases hc with z | z | z | z | z | z <;> subst z <;> decide)
                  have T2 := (rg192.a (a := 387) (by decide)).trans T1
                  have L2 := (rg192.s (a := 386) (k := 2) (by decide)).trans L1
                  have F2 := FRS_eq (rg192.a (by decide)) (rg192.a (by decide)) (rg192.a (by decide)) F1
                  have d2 := (rg192.s (a := 386) (k := 41) (by decide)).trans d1
                  have u2 := (rg192.s (a := 386) (k := 42) (by decide)).trans u1
                  have o2 := (rg192.s (a := 386) (k := 45) (by decide)).trans o1
                  rw [ev] at eg198
                  have A3 : ATT t P i g198 := by
                    rw [eg198]
                    exact ATT_fr A2 fun _ _ _ => zup_ne (Or.inl (by decide))
                  have T3 : g198 387 = T := by rw [eg198, zup_na (by decide), T2]
                  have L3 : g198 386 2 = (L : Int) := by rw [eg198, zup_ne (Or.inl (by decide)), L2]
                  have d3 : g198 386 41 = (st.length : Int) + 1 := by
                    rw [eg198, zup_ne (Or.inl (by decide))]
                    exact d2
                  have u3 : g198 386 42 = (st.length : Int) := by
                    rw [eg198, zup_ne (Or.inl (by decide))]
                    exact u2
                  have o3 : g198 386 45 = 1 := by
                    rw [eg198, zup_ne (Or.inl (by decide))]
                    exact o2
                  have F3 : FRS ((kd, 1, bg) :: st) g198 := by
                    obtain ⟨c1, c2, c3, c4⟩ := F2
                    rw [eg198]
                    exact ⟨by rw [zup_ne (Or.inl (by decide))]; exact c1, zup_eq, by rw [zup_ne (Or.inl (by decide))]; exact c3, FRS_up (Nat.le_refl _) c4⟩
                  have aa8 := A3.2.1
                  have aa9 := A3.2.2.2.1
                  exact w_2310 (by omega) (by omega) (by omega)
                · skip
                  intro g204 rg204 qg204 g210 eg210
                  have ep : x164 = ph := by rw [ex164, ev, f2]
                  have sg : sgB t 61 i = true := (att_sg A (by decide)).mpr ⟨by omega, by omega⟩
                  have k5 := (sgB_iff.mp sg).1
                  have hp : ph = 0 := by omega
                  have no : opB t i = false := by
                    cases z : opB t i with
                    | false => rfl
                    | true => exact absurd ⟨by omega, z⟩ n1
                  have am : amStep t (i, (kd, ph, bg) :: st, true) = .inl (i + 1, (kd, 1, bg) :: st, false) := by
                    rw [hp]
                    exact am_cmp (fc (by omega)) no (cmB_of (by decide) sg)
                  have A0_ := A
                  have T0 := hT
                  have L0 := hL
                  have F0 : FRS ((kd, ph, bg) :: st) g := ⟨f1, f2, f3, f4⟩
                  have d0 : g 386 41 = (st.length : Int) + 1 := by omega
                  have u0 : g 386 42 = (st.length : Int) := by omega
                  have o0 := h45
                  have A1 : ATT t P i g183 := ATT_fr A0_ fun k k1 k2 => rg183.s (by
                    have hc : k = 3 ∨ k = 4 ∨ k = 5 ∨ k = 6 ∨ k = 7 ∨ k = 8 := by omega
                    rcases hc with z | z | z | z | z | z <;> subst z <;> decide)
                  have T1 := (rg183.a (a := 387) (by decide)).trans T0
                  have L1 := (rg183.s (a := 386) (k := 2) (by decide)).trans L0
                  have F1 := FRS_eq (rg183.a (by decide)) (rg183.a (by decide)) (rg183.a (by decide)) F0
                  have d1 := (rg183.s (a := 386) (k := 41) (by decide)).trans d0
                  have u1 := (rg183.s (a := 386) (k := 42) (by decide)).trans u0
                  have o1 := (rg183.s (a := 386) (k := 45) (by decide)).trans o0
                  have A2 : ATT t P i g192 := ATT_fr A1 fun k k1 k2 => rg192.s (by
                    have hc : k = 3 ∨ k = 4 ∨ k = 5 ∨ k = 6 ∨ k = 7 ∨ k = 8 := by omega
                    rcases hc with z | z | z | z | z | z <;> subst z <;> decide)
                  have T2 := (rg192.a (a := 387) (by decide)).trans T1
                  have L2 := (rg192.s (a := 386) (k := 2) (by decide)).trans L1
                  have F2 := FRS_eq (rg192.a (by decide)) (rg192.a (by decide)) (rg192.a (by decide)) F1
                  have d2 := (rg192.s (a := 386) (k := 41) (by decide)).trans d1
                  have u2 := (rg192.s (a := 386) (k := 42) (by decide)).trans u1
                  have o2 := (rg192.s (a := 386) (k := 45) (by decide)).trans o1
                  rw [ev] at eg198
                  have A3 : ATT t P i g198 := by
                    rw [eg198]
                    exact ATT_fr A2 fun _ _ _ => zup_ne (Or.inl (by decide))
                  have T3 : g198 387 = T := by rw [eg198, zup_na (by decide), T2]
                  have L3 : g198 386 2 = (L : Int) := by rw [eg198, zup_ne (Or.inl (by decide)), L2]
                  have d3 : g198 386 41 = (st.length : Int) + 1 := by
                    rw [eg198, zup_ne (Or.inl (by decide))]
                    exact d2
                  have u3 : g198 386 42 = (st.length : Int) := by
                    rw [eg198, zup_ne (Or.inl (by decide))]
                    exact u2
                  have o3 : g198 386 45 = 1 := by
                    rw [eg198, zup_ne (Or.inl (by decide))]
                    exact o2
                  have F3 : FRS ((kd, 1, bg) :: st) g198 := by
                    obtain ⟨c1, c2, c3, c4⟩ := F2
                    rw [eg198]
                    exact ⟨by rw [zup_ne (Or.inl (by decide))]; exact c1, zup_eq, by rw [zup_ne (Or.inl (by decide))]; exact c3, FRS_up (Nat.le_refl _) c4⟩
                  have ha : AH T L (g198 386 5).toNat g204 := by
                    have z : AH (g198 387) (g198 386 2).toNat (g198 386 5).toNat g204 := qg204
                    rw [T3, L3] at z
                    exact z
                  have R4 : RSq t P e (.inl (i + 1)) g204 := rs_next (F := fun k => .inl (k + 1)) tk A3 hi (by omega) (by omega) rfl ha
                  have F4 := FRS_eq (rg204.a (by decide)) (rg204.a (by decide)) (rg204.a (by decide)) F3
                  have d4 := (rg204.s (a := 386) (k := 41) (by decide)).trans d3
                  have u4 := (rg204.s (a := 386) (k := 42) (by decide)).trans u3
                  have o4 := (rg204.s (a := 386) (k := 45) (by decide)).trans o3
                  have R5 : RSq t P e (.inl (i + 1)) g210 := by
                    rw [eg210]
                    exact RSq_sl R4 (by decide)
                  have F5 := FRS_o (a := 386) (m := 45) (v := 0) (by decide) F4
                  rw [← eg210] at F5
                  have d5 : g210 386 41 = (st.length : Int) + 1 := by
                    rw [eg210, zup_ne (Or.inr (by decide))]
                    exact d4
                  have u5 : g210 386 42 = (st.length : Int) := by
                    rw [eg210, zup_ne (Or.inr (by decide))]
                    exact u4
                  have o5 : g210 386 45 = 0 := by
                    rw [eg210, zup_eq]
                  have hl3 : (((kd, 1, bg) : zFm) :: st).length = st.length + 1 := rfl
                  exact Or.inl ⟨rfl, _, _, _, am, ⟨R5.1, R5.2, by rw [d5, hl3]; omega, by rw [u5, hl3]; omega, F5, by simp⟩, o5⟩
            · skip
              intro g216 rg216
              intro g225 rg225 g231 eg231
              refine ⟨fun g' => AH (g231 387) (g231 386 2).toNat (g231 386 5).toNat g', ?_, ?_⟩
              · skip
                have A0_ := A
                have T0 := hT
                have L0 := hL
                have F0 : FRS ((kd, ph, bg) :: st) g := ⟨f1, f2, f3, f4⟩
                have d0 : g 386 41 = (st.length : Int) + 1 := by omega
                have u0 : g 386 42 = (st.length : Int) := by omega
                have o0 := h45
                have A1 : ATT t P i g216 := ATT_fr A0_ fun k k1 k2 => rg216.s (by
                  have hc : k = 3 ∨ k = 4 ∨ k = 5 ∨ k = 6 ∨ k = 7 ∨ k = 8 := by omega
                  rcases hc with z | z | z | z | z | z <;> subst z <;> decide)
                have T1 := (rg216.a (a := 387) (by decide)).trans T0
                have L1 := (rg216.s (a := 386) (k := 2) (by decide)).trans L0
                have F1 := FRS_eq (rg216.a (by decide)) (rg216.a (by decide)) (rg216.a (by decide)) F0
                have d1 := (rg216.s (a := 386) (k := 41) (by decide)).trans d0
                have u1 := (rg216.s (a := 386) (k := 42) (by decide)).trans u0
                have o1 := (rg216.s (a := 386) (k := 45) (by decide)).trans o0
                have A2 : ATT t P i g225 := ATT_fr A1 fun k k1 k2 => rg225.s (by
                  have hc : k = 3 ∨ k = 4 ∨ k = 5 ∨ k = 6 ∨ k = 7 ∨ k = 8 := by omega
                  rcases hc with z | z | z | z | z | z <;> subst z <;> decide)
                have T2 := (rg225.a (a := 387) (by decide)).trans T1
                have L2 := (rg225.s (a := 386) (k := 2) (by decide)).trans L1
                have F2 := FRS_eq (rg225.a (by decide)) (rg225.a (by decide)) (rg225.a (by decide)) F1
                have d2 := (rg225.s (a := 386) (k := 41) (by decide)).trans d1
                have u2 := (rg225.s (a := 386) (k := 42) (by decide)).trans u1
                have o2 := (rg225.s (a := 386) (k := 45) (by decide)).trans o1
                rw [ev] at eg231
                have A3 : ATT t P i g231 := by
                  rw [eg231]
                  exact ATT_fr A2 fun _ _ _ => zup_ne (Or.inl (by decide))
                have T3 : g231 387 = T := by rw [eg231, zup_na (by decide), T2]
                have L3 : g231 386 2 = (L : Int) := by rw [eg231, zup_ne (Or.inl (by decide)), L2]
                have d3 : g231 386 41 = (st.length : Int) + 1 := by
                  rw [eg231, zup_ne (Or.inl (by decide))]
                  exact d2
                have u3 : g231 386 42 = (st.length : Int) := by
                  rw [eg231, zup_ne (Or.inl (by decide))]
                  exact u2
                have o3 : g231 386 45 = 1 := by
                  rw [eg231, zup_ne (Or.inl (by decide))]
                  exact o2
                have F3 : FRS ((kd, 1, bg) :: st) g231 := by
                  obtain ⟨c1, c2, c3, c4⟩ := F2
                  rw [eg231]
                  exact ⟨by rw [zup_ne (Or.inl (by decide))]; exact c1, zup_eq, by rw [zup_ne (Or.inl (by decide))]; exact c3, FRS_up (Nat.le_refl _) c4⟩
                have aa8 := A3.2.1
                have aa9 := A3.2.2.2.1
                exact w_2310 (by omega) (by omega) (by omega)
              · skip
                intro g237 rg237 qg237 g243 eg243
                have ep : x164 = ph := by rw [ex164, ev, f2]
                have sg : sgB t 62 i = true := (att_sg A (by decide)).mpr ⟨by omega, by omega⟩
                have k5 := (sgB_iff.mp sg).1
                have hp : ph = 0 := by omega
                have no : opB t i = false := by
                  cases z : opB t i with
                  | false => rfl
                  | true => exact absurd ⟨by omega, z⟩ n1
                have am : amStep t (i, (kd, ph, bg) :: st, true) = .inl (i + 1, (kd, 1, bg) :: st, false) := by
                  rw [hp]
                  exact am_cmp (fc (by omega)) no (cmB_of (by decide) sg)
                have A0_ := A
                have T0 := hT
                have L0 := hL
                have F0 : FRS ((kd, ph, bg) :: st) g := ⟨f1, f2, f3, f4⟩
                have d0 : g 386 41 = (st.length : Int) + 1 := by omega
                have u0 : g 386 42 = (st.length : Int) := by omega
                have o0 := h45
                have A1 : ATT t P i g216 := ATT_fr A0_ fun k k1 k2 => rg216.s (by
                  have hc : k = 3 ∨ k = 4 ∨ k = 5 ∨ k = 6 ∨ k = 7 ∨ k = 8 := by omega
                  rcases hc with z | z | z | z | z | z <;> subst z <;> decide)
                have T1 := (rg216.a (a := 387) (by decide)).trans T0
                have L1 := (rg216.s (a := 386) (k := 2) (by decide)).trans L0
                have F1 := FRS_eq (rg216.a (by decide)) (rg216.a (by decide)) (rg216.a (by decide)) F0
                have d1 := (rg216.s (a := 386) (k := 41) (by decide)).trans d0
                have u1 := (rg216.s (a := 386) (k := 42) (by decide)).trans u0
                have o1 := (rg216.s (a := 386) (k := 45) (by decide)).trans o0
                have A2 : ATT t P i g225 := ATT_fr A1 fun k k1 k2 => rg225.s (by
                  have hc : k = 3 ∨ k = 4 ∨ k = 5 ∨ k = 6 ∨ k = 7 ∨ k = 8 := by omega
                  rcases hc with z | z | z | z | z | z <;> subst z <;> decide)
                have T2 := (rg225.a (a := 387) (by decide)).trans T1
                have L2 := (rg225.s (a := 386) (k := 2) (by decide)).trans L1
                have F2 := FRS_eq (rg225.a (by decide)) (rg225.a (by decide)) (rg225.a (by decide)) F1
                have d2 := (rg225.s (a := 386) (k := 41) (by decide)).trans d1
                have u2 := (rg225.s (a := 386) (k := 42) (by decide)).trans u1
                have o2 := (rg225.s (a := 386) (k := 45) (by decide)).trans o1
                rw [ev] at eg231
                have A3 : ATT t P i g231 := by
                  rw [eg231]
                  exact ATT_fr A2 fun _ _ _ => zup_ne (Or.inl (by decide))
                have T3 : g231 387 = T := by rw [eg231, zup_na (by decide), T2]
                have L3 : g231 386 2 = (L : Int) := by rw [eg231, zup_ne (Or.inl (by decide)), L2]
                have d3 : g231 386 41 = (st.length : Int) + 1 := by
                  rw [eg231, zup_ne (Or.inl (by decide))]
                  exact d2
                have u3 : g231 386 42 = (st.length : Int) := by
                  rw [eg231, zup_ne (Or.inl (by decide))]
                  exact u2
                have o3 : g231 386 45 = 1 := by
                  rw [eg231, zup_ne (Or.inl (by decide))]
                  exact o2
                have F3 : FRS ((kd, 1, bg) :: st) g231 := by
                  obtain ⟨c1, c2, c3, c4⟩ := F2
                  rw [eg231]
                  exact ⟨by rw [zup_ne (Or.inl (by decide))]; exact c1, zup_eq, by rw [zup_ne (Or.inl (by decide))]; exact c3, FRS_up (Nat.le_refl _) c4⟩
                have ha : AH T L (g231 386 5).toNat g237 := by
                  have z : AH (g231 387) (g231 386 2).toNat (g231 386 5).toNat g237 := qg237
                  rw [T3, L3] at z
                  exact z
                have R4 : RSq t P e (.inl (i + 1)) g237 := rs_next (F := fun k => .inl (k + 1)) tk A3 hi (by omega) (by omega) rfl ha
                have F4 := FRS_eq (rg237.a (by decide)) (rg237.a (by decide)) (rg237.a (by decide)) F3
                have d4 := (rg237.s (a := 386) (k := 41) (by decide)).trans d3
                have u4 := (rg237.s (a := 386) (k := 42) (by decide)).trans u3
                have o4 := (rg237.s (a := 386) (k := 45) (by decide)).trans o3
                have R5 : RSq t P e (.inl (i + 1)) g243 := by
                  rw [eg243]
                  exact RSq_sl R4 (by decide)
                have F5 := FRS_o (a := 386) (m := 45) (v := 0) (by decide) F4
                rw [← eg243] at F5
                have d5 : g243 386 41 = (st.length : Int) + 1 := by
                  rw [eg243, zup_ne (Or.inr (by decide))]
                  exact d4
                have u5 : g243 386 42 = (st.length : Int) := by
                  rw [eg243, zup_ne (Or.inr (by decide))]
                  exact u4
                have o5 : g243 386 45 = 0 := by
                  rw [eg243, zup_eq]
                have hl3 : (((kd, 1, bg) : zFm) :: st).length = st.length + 1 := rfl
                exact Or.inl ⟨rfl, _, _, _, am, ⟨R5.1, R5.2, by rw [d5, hl3]; omega, by rw [u5, hl3]; omega, F5, by simp⟩, o5⟩
          · skip
            intro g249 rg249
            intro g258 rg258 g264 eg264
            refine ⟨fun g' => AH (g264 387) (g264 386 2).toNat (g264 386 5).toNat g', ?_, ?_⟩
            · skip
              have A0_ := A
              have T0 := hT
              have L0 := hL
              have F0 : FRS ((kd, ph, bg) :: st) g := ⟨f1, f2, f3, f4⟩
              have d0 : g 386 41 = (st.length : Int) + 1 := by omega
              have u0 : g 386 42 = (st.length : Int) := by omega
              have o0 := h45
              have A1 : ATT t P i g249 := ATT_fr A0_ fun k k1 k2 => rg249.s (by
                have hc : k = 3 ∨ k = 4 ∨ k = 5 ∨ k = 6 ∨ k = 7 ∨ k = 8 := by omega
                rcases hc with z | z | z | z | z | z <;> subst z <;> decide)
              have T1 := (rg249.a (a := 387) (by decide)).trans T0
              have L1 := (rg249.s (a := 386) (k := 2) (by decide)).trans L0
              have F1 := FRS_eq (rg249.a (by decide)) (rg249.a (by decide)) (rg249.a (by decide)) F0
              have d1 := (rg249.s (a := 386) (k := 41) (by decide)).trans d0
              have u1 := (rg249.s (a := 386) (k := 42) (by decide)).trans u0
              have o1 := (rg249.s (a := 386) (k := 45) (by decide)).trans o0
              have A2 : ATT t P i g258 := ATT_fr A1 fun k k1 k2 => rg258.s (by
                have hc : k = 3 ∨ k = 4 ∨ k = 5 ∨ k = 6 ∨ k = 7 ∨ k = 8 := by omega
                rcases hc with z | z | z | z | z | z <;> subst z <;> decide)
              have T2 := (rg258.a (a := 387) (by decide)).trans T1
              have L2 := (rg258.s (a := 386) (k := 2) (by decide)).trans L1
              have F2 := FRS_eq (rg258.a (by decide)) (rg258.a (by decide)) (rg258.a (by decide)) F1
              have d2 := (rg258.s (a := 386) (k := 41) (by decide)).trans d1
              have u2 := (rg258.s (a := 386) (k := 42) (by decide)).trans u1
              have o2 := (rg258.s (a := 386) (k := 45) (by decide)).trans o1
              rw [ev] at eg264
              have A3 : ATT t P i g264 := by
                rw [eg264]
                exact ATT_fr A2 fun _ _ _ => zup_ne (Or.inl (by decide))
              have T3 : g264 387 = T := by rw [eg264, zup_na (by decide), T2]
              have L3 : g264 386 2 = (L : Int) := by rw [eg264, zup_ne (Or.inl (by decide)), L2]
              have d3 : g264 386 41 = (st.length : Int) + 1 := by
                rw [eg264, zup_ne (Or.inl (by decide))]
                exact d2
              have u3 : g264 386 42 = (st.length : Int) := by
                rw [eg264, zup_ne (Or.inl (by decide))]
                exact u2
              have o3 : g264 386 45 = 1 := by
                rw [eg264, zup_ne (Or.inl (by decide))]
                exact o2
              have F3 : FRS ((kd, 1, bg) :: st) g264 := by
                obtain ⟨c1, c2, c3, c4⟩ := F2
                rw [eg264]
                exact ⟨by rw [zup_ne (Or.inl (by decide))]; exact c1, zup_eq, by rw [zup_ne (Or.inl (by decide))]; exact c3, FRS_up (Nat.le_refl _) c4⟩
              have aa8 := A3.2.1
              have aa9 := A3.2.2.2.1
              exact w_2310 (by omega) (by omega) (by omega)
            · skip
              intro g270 rg270 qg270 g276 eg276
              have ep : x164 = ph := by rw [ex164, ev, f2]
              have sg : sgB t 60 i = true := (att_sg A (by decide)).mpr ⟨by omega, by omega⟩
              have k5 := (sgB_iff.mp sg).1
              have hp : ph = 0 := by omega
              have no : opB t i = false := by
                cases z : opB t i with
                | false => rfl
                | true => exact absurd ⟨by omega, z⟩ n1
              have am : amStep t (i, (kd, ph, bg) :: st, true) = .inl (i + 1, (kd, 1, bg) :: st, false) := by
                rw [hp]
                exact am_cmp (fc (by omega)) no (cmB_of (by decide) sg)
              have A0_ := A
              have T0 := hT
              have L0 := hL
              have F0 : FRS ((kd, ph, bg) :: st) g := ⟨f1, f2, f3, f4⟩
              have d0 : g 386 41 = (st.length : Int) + 1 := by omega
              have u0 : g 386 42 = (st.length : Int) := by omega
              have o0 := h45
              have A1 : ATT t P i g249 := ATT_fr A0_ fun k k1 k2 => rg249.s (by
                have hc : k = 3 ∨ k = 4 ∨ k = 5 ∨ k = 6 ∨ k = 7 ∨ k = 8 := by omega
                rcases hc with z | z | z | z | z | z <;> subst z <;> decide)
              have T1 := (rg249.a (a := 387) (by decide)).trans T0
              have L1 := (rg249.s (a := 386) (k := 2) (by decide)).trans L0
              have F1 := FRS_eq (rg249.a (by decide)) (rg249.a (by decide)) (rg249.a (by decide)) F0
              have d1 := (rg249.s (a := 386) (k := 41) (by decide)).trans d0
              have u1 := (rg249.s (a := 386) (k := 42) (by decide)).trans u0
              have o1 := (rg249.s (a := 386) (k := 45) (by decide)).trans o0
              have A2 : ATT t P i g258 := ATT_fr A1 fun k k1 k2 => rg258.s (by
                have hc : k = 3 ∨ k = 4 ∨ k = 5 ∨ k = 6 ∨ k = 7 ∨ k = 8 := by omega
                rcases hc with z | z | z | z | z | z <;> subst z <;> decide)
              have T2 := (rg258.a (a := 387) (by decide)).trans T1
              have L2 := (rg258.s (a := 386) (k := 2) (by decide)).trans L1
              have F2 := FRS_eq (rg258.a (by decide)) (rg258.a (by decide)) (rg258.a (by decide)) F1
              have d2 := (rg258.s (a := 386) (k := 41) (by decide)).trans d1
              have u2 := (rg258.s (a := 386) (k := 42) (by decide)).trans u1
              have o2 := (rg258.s (a := 386) (k := 45) (by decide)).trans o1
              rw [ev] at eg264
              have A3 : ATT t P i g264 := by
                rw [eg264]
                exact ATT_fr A2 fun _ _ _ => zup_ne (Or.inl (by decide))
              have T3 : g264 387 = T := by rw [eg264, zup_na (by decide), T2]
              have L3 : g264 386 2 = (L : Int) := by rw [eg264, zup_ne (Or.inl (by decide)), L2]
              have d3 : g264 386 41 = (st.length : Int) + 1 := by
                rw [eg264, zup_ne (Or.inl (by decide))]
                exact d2
              have u3 : g264 386 42 = (st.length : Int) := by
                rw [eg264, zup_ne (Or.inl (by decide))]
                exact u2
              have o3 : g264 386 45 = 1 := by
                rw [eg264, zup_ne (Or.inl (by decide))]
                exact o2
              have F3 : FRS ((kd, 1, bg) :: st) g264 := by
                obtain ⟨c1, c2, c3, c4⟩ := F2
                rw [eg264]
                exact ⟨by rw [zup_ne (Or.inl (by decide))]; exact c1, zup_eq, by rw [zup_ne (Or.inl (by decide))]; exact c3, FRS_up (Nat.le_refl _) c4⟩
              have ha : AH T L (g264 386 5).toNat g270 := by
                have z : AH (g264 387) (g264 386 2).toNat (g264 386 5).toNat g270 := qg270
                rw [T3, L3] at z
                exact z
              have R4 : RSq t P e (.inl (i + 1)) g270 := rs_next (F := fun k => .inl (k + 1)) tk A3 hi (by omega) (by omega) rfl ha
              have F4 := FRS_eq (rg270.a (by decide)) (rg270.a (by decide)) (rg270.a (by decide)) F3
              have d4 := (rg270.s (a := 386) (k := 41) (by decide)).trans d3
              have u4 := (rg270.s (a := 386) (k := 42) (by decide)).trans u3
              have o4 := (rg270.s (a := 386) (k := 45) (by decide)).trans o3
              have R5 : RSq t P e (.inl (i + 1)) g276 := by
                rw [eg276]
                exact RSq_sl R4 (by decide)
              have F5 := FRS_o (a := 386) (m := 45) (v := 0) (by decide) F4
              rw [← eg276] at F5
              have d5 : g276 386 41 = (st.length : Int) + 1 := by
                rw [eg276, zup_ne (Or.inr (by decide))]
                exact d4
              have u5 : g276 386 42 = (st.length : Int) := by
                rw [eg276, zup_ne (Or.inr (by decide))]
                exact u4
              have o5 : g276 386 45 = 0 := by
                rw [eg276, zup_eq]
              have hl3 : (((kd, 1, bg) : zFm) :: st).length = st.length + 1 := rfl
              exact Or.inl ⟨rfl, _, _, _, am, ⟨R5.1, R5.2, by rw [d5, hl3]; omega, by rw [u5, hl3]; omega, F5, by simp⟩, o5⟩
    · skip
      exact ⟨hv1, rfl, hv2, fa, fc, fd, n1, fun z => by rw [fd (by omega)] at z; exact absurd z.1 (by decide)⟩
  · intro g v272_1 v272_2 v272_3 rg o1 o2 o3 o4 o5 o6 hI
    obtain ⟨hv1, hg, hv2, fa, fc, fd, n1, n2⟩ := hI
    subst hg
    have ev : v272_1.toNat = st.length := by omega
    refine ⟨fun h7z => ?_, fun h7z => ?_⟩
    · skip
      intro x278 ex278 o9 o10
      refine ⟨fun h11z => ?_, fun h11z => ?_⟩
      · skip
        refine ⟨fun h12z => ?_, fun h12z => ?_⟩
        · skip
          exact ⟨hv1, rfl, hv2, fa, fc, fd, n1, n2, fun z => by
            rw [aoB_no (att_now A (w := 22) (a := 6385252) (OW_w (by decide) rfl) (fun y => by omega)) (att_now A (w := 21) (a := 28530) (OW_w (by decide) rfl) (fun y => by omega))] at z
            exact absurd z.2 (by decide)⟩
        · skip
          intro y287 ey287 x288 ex288
          refine ⟨fun h15z => ?_, fun h15z => ?_⟩
          · skip
            exact ⟨hv1, rfl, hv2, fa, fc, fd, n1, n2, fun z => by
              rw [aoB_no (att_now A (w := 22) (a := 6385252) (OW_w (by decide) rfl) (fun y => by omega)) (att_now A (w := 21) (a := 28530) (OW_w (by decide) rfl) (fun y => by omega))] at z
              exact absurd z.2 (by decide)⟩
          · skip
            intro x294 ex294 o17 o18
            refine ⟨fun h19z => ?_, fun h19z => ?_⟩
            · skip
              intro x296 ex296 o21 o22
              refine ⟨fun h23z => ?_, fun h23z => ?_⟩
              · skip
                exfalso
                omega
              · skip
                intro x301 ex301
                refine ⟨fun h25z => ?_, fun h25z => ?_⟩
                · skip
                  intro g309 rg309
                  intro g316 rg316 g322 eg322 g327 eg327
                  refine ⟨fun g' => AH (g327 387) (g327 386 2).toNat (g327 386 5).toNat g', ?_, ?_⟩
                  · skip
                    have A0_ := A
                    have T0 := hT
                    have L0 := hL
                    have F0 : FRS ((kd, ph, bg) :: st) g := ⟨f1, f2, f3, f4⟩
                    have d0 : g 386 41 = (st.length : Int) + 1 := by omega
                    have u0 : g 386 42 = (st.length : Int) := by omega
                    have o0 := h45
                    have A1 : ATT t P i g309 := ATT_fr A0_ fun k k1 k2 => rg309.s (by
                      have hc : k = 3 ∨ k = 4 ∨ k = 5 ∨ k = 6 ∨ k = 7 ∨ k = 8 := by omega
                      rcases hc with z | z | z | z | z | z <;> subst z <;> decide)
                    have T1 := (rg309.a (a := 387) (by decide)).trans T0
                    have L1 := (rg309.s (a := 386) (k := 2) (by decide)).trans L0
                    have F1 := FRS_eq (rg309.a (by decide)) (rg309.a (by decide)) (rg309.a (by decide)) F0
                    have d1 := (rg309.s (a := 386) (k := 41) (by decide)).trans d0
                    have u1 := (rg309.s (a := 386) (k := 42) (by decide)).trans u0
                    have o1 := (rg309.s (a := 386) (k := 45) (by decide)).trans o0
                    have A2 : ATT t P i g316 := ATT_fr A1 fun k k1 k2 => rg316.s (by
                      have hc : k = 3 ∨ k = 4 ∨ k = 5 ∨ k = 6 ∨ k = 7 ∨ k = 8 := by omega
                      rcases hc with z | z | z | z | z | z <;> subst z <;> decide)
                    have T2 := (rg316.a (a := 387) (by decide)).trans T1
                    have L2 := (rg316.s (a := 386) (k := 2) (by decide)).trans L1
                    have F2 := FRS_eq (rg316.a (by decide)) (rg316.a (by decide)) (rg316.a (by decide)) F1
                    have d2 := (rg316.s (a := 386) (k := 41) (by decide)).trans d1
                    have u2 := (rg316.s (a := 386) (k := 42) (by decide)).trans u1
                    have o2 := (rg316.s (a := 386) (k := 45) (by decide)).trans o1
                    rw [ev] at eg322
                    have A3 : ATT t P i g322 := by
                      rw [eg322]
                      exact ATT_fr A2 fun _ _ _ => zup_ne (Or.inl (by decide))
                    have T3 : g322 387 = T := by rw [eg322, zup_na (by decide), T2]
                    have L3 : g322 386 2 = (L : Int) := by rw [eg322, zup_ne (Or.inl (by decide)), L2]
                    have d3 : g322 386 41 = (st.length : Int) + 1 := by
                      rw [eg322, zup_ne (Or.inl (by decide))]
                      exact d2
                    have u3 : g322 386 42 = (st.length : Int) := by
                      rw [eg322, zup_ne (Or.inl (by decide))]
                      exact u2
                    have o3 : g322 386 45 = 1 := by
                      rw [eg322, zup_ne (Or.inl (by decide))]
                      exact o2
                    have F3 : FRS ((kd, 0, bg) :: st) g322 := by
                      obtain ⟨c1, c2, c3, c4⟩ := F2
                      rw [eg322]
                      exact ⟨by rw [zup_ne (Or.inl (by decide))]; exact c1, zup_eq, by rw [zup_ne (Or.inl (by decide))]; exact c3, FRS_up (Nat.le_refl _) c4⟩
                    rw [ev] at eg327
                    have A4 : ATT t P i g327 := by
                      rw [eg327]
                      exact ATT_fr A3 fun _ _ _ => zup_ne (Or.inl (by decide))
                    have T4 : g327 387 = T := by rw [eg327, zup_na (by decide), T3]
                    have L4 : g327 386 2 = (L : Int) := by rw [eg327, zup_ne (Or.inl (by decide)), L3]
                    have d4 : g327 386 41 = (st.length : Int) + 1 := by
                      rw [eg327, zup_ne (Or.inl (by decide))]
                      exact d3
                    have u4 : g327 386 42 = (st.length : Int) := by
                      rw [eg327, zup_ne (Or.inl (by decide))]
                      exact u3
                    have o4 : g327 386 45 = 1 := by
                      rw [eg327, zup_ne (Or.inl (by decide))]
                      exact o3
                    have F4 : FRS ((kd, 0, true) :: st) g327 := by
                      obtain ⟨c1, c2, c3, c4⟩ := F3
                      rw [eg327]
                      exact ⟨by rw [zup_ne (Or.inl (by decide))]; exact c1, by rw [zup_ne (Or.inl (by decide))]; exact c2, zup_eq, FRS_up (Nat.le_refl _) c4⟩
                    have aa8 := A4.2.1
                    have aa9 := A4.2.2.2.1
                    exact w_2310 (by omega) (by omega) (by omega)
                  · skip
                    intro g333 rg333 qg333 g339 eg339
                    have ep : x294 = ph := by rw [ex294, ev, f2]
                    have ht1 := fc (by omega)
                    have wo : tokI t i = 22 ∨ tokI t i = 21 := by
                      first
                      | exact Or.inl ((att_own A (w := 22) (a := 6385252) (OW_w (by decide) rfl)).mpr ⟨by omega, by omega⟩)
                      | exact Or.inr ((att_own A (w := 21) (a := 28530) (OW_w (by decide) rfl)).mpr ⟨by omega, by omega⟩)
                    have nh : t.1 i = 2 := tokI_2 (by omega)
                    have A0_ := A
                    have T0 := hT
                    have L0 := hL
                    have F0 : FRS ((kd, ph, bg) :: st) g := ⟨f1, f2, f3, f4⟩
                    have d0 : g 386 41 = (st.length : Int) + 1 := by omega
                    have u0 : g 386 42 = (st.length : Int) := by omega
                    have o0 := h45
                    have A1 : ATT t P i g309 := ATT_fr A0_ fun k k1 k2 => rg309.s (by
                      have hc : k = 3 ∨ k = 4 ∨ k = 5 ∨ k = 6 ∨ k = 7 ∨ k = 8 := by omega
                      rcases hc with z | z | z | z | z | z <;> subst z <;> decide)
                    have T1 := (rg309.a (a := 387) (by decide)).trans T0
                    have L1 := (rg309.s (a := 386) (k := 2) (by decide)).trans L0
                    have F1 := FRS_eq (rg309.a (by decide)) (rg309.a (by decide)) (rg309.a (by decide)) F0
                    have d1 := (rg309.s (a := 386) (k := 41) (by decide)).trans d0
                    have u1 := (rg309.s (a := 386) (k := 42) (by decide)).trans u0
                    have o1 := (rg309.s (a := 386) (k := 45) (by decide)).trans o0
                    have A2 : ATT t P i g316 := ATT_fr A1 fun k k1 k2 => rg316.s (by
                      have hc : k = 3 ∨ k = 4 ∨ k = 5 ∨ k = 6 ∨ k = 7 ∨ k = 8 := by omega
                      rcases hc with z | z | z | z | z | z <;> subst z <;> decide)
                    have T2 := (rg316.a (a := 387) (by decide)).trans T1
                    have L2 := (rg316.s (a := 386) (k := 2) (by decide)).trans L1
                    have F2 := FRS_eq (rg316.a (by decide)) (rg316.a (by decide)) (rg316.a (by decide)) F1
                    have d2 := (rg316.s (a := 386) (k := 41) (by decide)).trans d1
                    have u2 := (rg316.s (a := 386) (k := 42) (by decide)).trans u1
                    have o2 := (rg316.s (a := 386) (k := 45) (by decide)).trans o1
                    rw [ev] at eg322
                    have A3 : ATT t P i g322 := by
                      rw [eg322]
                      exact ATT_fr A2 fun _ _ _ => zup_ne (Or.inl (by decide))
                    have T3 : g322 387 = T := by rw [eg322, zup_na (by decide), T2]
                    have L3 : g322 386 2 = (L : Int) := by rw [eg322, zup_ne (Or.inl (by decide)), L2]
                    have d3 : g322 386 41 = (st.length : Int) + 1 := by
                      rw [eg322, zup_ne (Or.inl (by decide))]
                      exact d2
                    have u3 : g322 386 42 = (st.length : Int) := by
                      rw [eg322, zup_ne (Or.inl (by decide))]
                      exact u2
                    have o3 : g322 386 45 = 1 := by
                      rw [eg322, zup_ne (Or.inl (by decide))]
                      exact o2
                    have F3 : FRS ((kd, 0, bg) :: st) g322 := by
                      obtain ⟨c1, c2, c3, c4⟩ := F2
                      rw [eg322]
                      exact ⟨by rw [zup_ne (Or.inl (by decide))]; exact c1, zup_eq, by rw [zup_ne (Or.inl (by decide))]; exact c3, FRS_up (Nat.le_refl _) c4⟩
                    rw [ev] at eg327
                    have A4 : ATT t P i g327 := by
                      rw [eg327]
                      exact ATT_fr A3 fun _ _ _ => zup_ne (Or.inl (by decide))
                    have T4 : g327 387 = T := by rw [eg327, zup_na (by decide), T3]
                    have L4 : g327 386 2 = (L : Int) := by rw [eg327, zup_ne (Or.inl (by decide)), L3]
                    have d4 : g327 386 41 = (st.length : Int) + 1 := by
                      rw [eg327, zup_ne (Or.inl (by decide))]
                      exact d3
                    have u4 : g327 386 42 = (st.length : Int) := by
                      rw [eg327, zup_ne (Or.inl (by decide))]
                      exact u3
                    have o4 : g327 386 45 = 1 := by
                      rw [eg327, zup_ne (Or.inl (by decide))]
                      exact o3
                    have F4 : FRS ((kd, 0, true) :: st) g327 := by
                      obtain ⟨c1, c2, c3, c4⟩ := F3
                      rw [eg327]
                      exact ⟨by rw [zup_ne (Or.inl (by decide))]; exact c1, by rw [zup_ne (Or.inl (by decide))]; exact c2, zup_eq, FRS_up (Nat.le_refl _) c4⟩
                    have ha : AH T L (g327 386 5).toNat g333 := by
                      have z : AH (g327 387) (g327 386 2).toNat (g327 386 5).toNat g333 := qg333
                      rw [T4, L4] at z
                      exact z
                    have R5 : RSq t P e (.inl (i + 1)) g333 := rs_next (F := fun k => .inl (k + 1)) tk A4 hi (by omega) (by omega) rfl ha
                    have F5 := FRS_eq (rg333.a (by decide)) (rg333.a (by decide)) (rg333.a (by decide)) F4
                    have d5 := (rg333.s (a := 386) (k := 41) (by decide)).trans d4
                    have u5 := (rg333.s (a := 386) (k := 42) (by decide)).trans u4
                    have o5 := (rg333.s (a := 386) (k := 45) (by decide)).trans o4
                    have R6 : RSq t P e (.inl (i + 1)) g339 := by
                      rw [eg339]
                      exact RSq_sl R5 (by decide)
                    have F6 := FRS_o (a := 386) (m := 45) (v := 0) (by decide) F5
                    rw [← eg339] at F6
                    have d6 : g339 386 41 = (st.length : Int) + 1 := by
                      rw [eg339, zup_ne (Or.inr (by decide))]
                      exact d5
                    have u6 : g339 386 42 = (st.length : Int) := by
                      rw [eg339, zup_ne (Or.inr (by decide))]
                      exact u5
                    have o6 : g339 386 45 = 0 := by
                      rw [eg339, zup_eq]
                    have hl3 : (((kd, 0, true) : zFm) :: st).length = st.length + 1 := rfl
                    exact Or.inl ⟨rfl, _, _, _, am_ao ht1 (by omega) (fun z => by
                      cases y : opB t i with
                      | false => rfl
                      | true => exact absurd ⟨by omega, y⟩ n1) (aoB_of wo), ⟨R6.1, R6.2, by rw [d6, hl3]; omega, by rw [u6, hl3]; omega, F6, by simp⟩, o6⟩
                · skip
                  intro g345 rg345
                  intro g352 rg352 g358 eg358 g363 eg363
                  refine ⟨fun g' => AH (g363 387) (g363 386 2).toNat (g363 386 5).toNat g', ?_, ?_⟩
                  · skip
                    have A0_ := A
                    have T0 := hT
                    have L0 := hL
                    have F0 : FRS ((kd, ph, bg) :: st) g := ⟨f1, f2, f3, f4⟩
                    have d0 : g 386 41 = (st.length : Int) + 1 := by omega
                    have u0 : g 386 42 = (st.length : Int) := by omega
                    have o0 := h45
                    have A1 : ATT t P i g345 := ATT_fr A0_ fun k k1 k2 => rg345.s (by
                      have hc : k = 3 ∨ k = 4 ∨ k = 5 ∨ k = 6 ∨ k = 7 ∨ k = 8 := by omega
                      rcases hc with z | z | z | z | z | z <;> subst z <;> decide)
                    have T1 := (rg345.a (a := 387) (by decide)).trans T0
                    have L1 := (rg345.s (a := 386) (k := 2) (by decide)).trans L0
                    have F1 := FRS_eq (rg345.a (by decide)) (rg345.a (by decide)) (rg345.a (by decide)) F0
                    have d1 := (rg345.s (a := 386) (k := 41) (by decide)).trans d0
                    have u1 := (rg345.s (a := 386) (k := 42) (by decide)).trans u0
                    have o1 := (rg345.s (a := 386) (k := 45) (by decide)).trans o0
                    have A2 : ATT t P i g352 := ATT_fr A1 fun k k1 k2 => rg352.s (by
                      have hc : k = 3 ∨ k = 4 ∨ k = 5 ∨ k = 6 ∨ k = 7 ∨ k = 8 := by omega
                      rcases hc with z | z | z | z | z | z <;> subst z <;> decide)
                    have T2 := (rg352.a (a := 387) (by decide)).trans T1
                    have L2 := (rg352.s (a := 386) (k := 2) (by decide)).trans L1
                    have F2 := FRS_eq (rg352.a (by decide)) (rg352.a (by decide)) (rg352.a (by decide)) F1
                    have d2 := (rg352.s (a := 386) (k := 41) (by decide)).trans d1
                    have u2 := (rg352.s (a := 386) (k := 42) (by decide)).trans u1
                    have o2 := (rg352.s (a := 386) (k := 45) (by decide)).trans o1
                    rw [ev] at eg358
                    have A3 : ATT t P i g358 := by
                      rw [eg358]
                      exact ATT_fr A2 fun _ _ _ => zup_ne (Or.inl (by decide))
                    have T3 : g358 387 = T := by rw [eg358, zup_na (by decide), T2]
                    have L3 : g358 386 2 = (L : Int) := by rw [eg358, zup_ne (Or.inl (by decide)), L2]
                    have d3 : g358 386 41 = (st.length : Int) + 1 := by
                      rw [eg358, zup_ne (Or.inl (by decide))]
                      exact d2
                    have u3 : g358 386 42 = (st.length : Int) := by
                      rw [eg358, zup_ne (Or.inl (by decide))]
                      exact u2
                    have o3 : g358 386 45 = 1 := by
                      rw [eg358, zup_ne (Or.inl (by decide))]
                      exact o2
                    have F3 : FRS ((kd, 0, bg) :: st) g358 := by
                      obtain ⟨c1, c2, c3, c4⟩ := F2
                      rw [eg358]
                      exact ⟨by rw [zup_ne (Or.inl (by decide))]; exact c1, zup_eq, by rw [zup_ne (Or.inl (by decide))]; exact c3, FRS_up (Nat.le_refl _) c4⟩
                    rw [ev] at eg363
                    have A4 : ATT t P i g363 := by
                      rw [eg363]
                      exact ATT_fr A3 fun _ _ _ => zup_ne (Or.inl (by decide))
                    have T4 : g363 387 = T := by rw [eg363, zup_na (by decide), T3]
                    have L4 : g363 386 2 = (L : Int) := by rw [eg363, zup_ne (Or.inl (by decide)), L3]
                    have d4 : g363 386 41 = (st.length : Int) + 1 := by
                      rw [eg363, zup_ne (Or.inl (by decide))]
                      exact d3
                    have u4 : g363 386 42 = (st.length : Int) := by
                      rw [eg363, zup_ne (Or.inl (by decide))]
                      exact u3
                    have o4 : g363 386 45 = 1 := by
                      rw [eg363, zup_ne (Or.inl (by decide))]
                      exact o3
                    have F4 : FRS ((kd, 0, true) :: st) g363 := by
                      obtain ⟨c1, c2, c3, c4⟩ := F3
                      rw [eg363]
                      exact ⟨by rw [zup_ne (Or.inl (by decide))]; exact c1, by rw [zup_ne (Or.inl (by decide))]; exact c2, zup_eq, FRS_up (Nat.le_refl _) c4⟩
                    have aa8 := A4.2.1
                    have aa9 := A4.2.2.2.1
                    exact w_2310 (by omega) (by omega) (by omega)
                  · skip
                    intro g369 rg369 qg369 g375 eg375
                    have ep : x294 = ph := by rw [ex294, ev, f2]
                    have ht1 := fc (by omega)
                    have wo : tokI t i = 22 ∨ tokI t i = 21 := by
                      first
                      | exact Or.inl ((att_own A (w := 22) (a := 6385252) (OW_w (by decide) rfl)).mpr ⟨by omega, by omega⟩)
                      | exact Or.inr ((att_own A (w := 21) (a := 28530) (OW_w (by decide) rfl)).mpr ⟨by omega, by omega⟩)
                    have nh : t.1 i = 2 := tokI_2 (by omega)
                    have A0_ := A
                    have T0 := hT
                    have L0 := hL
                    have F0 : FRS ((kd, ph, bg) :: st) g := ⟨f1, f2, f3, f4⟩
                    have d0 : g 386 41 = (st.length : Int) + 1 := by omega
                    have u0 : g 386 42 = (st.length : Int) := by omega
                    have o0 := h45
                    have A1 : ATT t P i g345 := ATT_fr A0_ fun k k1 k2 => rg345.s (by
                      have hc : k = 3 ∨ k = 4 ∨ k = 5 ∨ k = 6 ∨ k = 7 ∨ k = 8 := by omega
                      rcases hc with z | z | z | z | z | z <;> subst z <;> decide)
                    have T1 := (rg345.a (a := 387) (by decide)).trans T0
                    have L1 := (rg345.s (a := 386) (k := 2) (by decide)).trans L0
                    have F1 := FRS_eq (rg345.a (by decide)) (rg345.a (by decide)) (rg345.a (by decide)) F0
                    have d1 := (rg345.s (a := 386) (k := 41) (by decide)).trans d0
                    have u1 := (rg345.s (a := 386) (k := 42) (by decide)).trans u0
                    have o1 := (rg345.s (a := 386) (k := 45) (by decide)).trans o0
                    have A2 : ATT t P i g352 := ATT_fr A1 fun k k1 k2 => rg352.s (by
                      have hc : k = 3 ∨ k = 4 ∨ k = 5 ∨ k = 6 ∨ k = 7 ∨ k = 8 := by omega
                      rcases hc with z | z | z | z | z | z <;> subst z <;> decide)
                    have T2 := (rg352.a (a := 387) (by decide)).trans T1
                    have L2 := (rg352.s (a := 386) (k := 2) (by decide)).trans L1
                    have F2 := FRS_eq (rg352.a (by decide)) (rg352.a (by decide)) (rg352.a (by decide)) F1
                    have d2 := (rg352.s (a := 386) (k := 41) (by decide)).trans d1
                    have u2 := (rg352.s (a := 386) (k := 42) (by decide)).trans u1
                    have o2 := (rg352.s (a := 386) (k := 45) (by decide)).trans o1
                    rw [ev] at eg358
                    have A3 : ATT t P i g358 := by
                      rw [eg358]
                      exact ATT_fr A2 fun _ _ _ => zup_ne (Or.inl (by decide))
                    have T3 : g358 387 = T := by rw [eg358, zup_na (by decide), T2]
                    have L3 : g358 386 2 = (L : Int) := by rw [eg358, zup_ne (Or.inl (by decide)), L2]
                    have d3 : g358 386 41 = (st.length : Int) + 1 := by
                      rw [eg358, zup_ne (Or.inl (by decide))]
                      exact d2
                    have u3 : g358 386 42 = (st.length : Int) := by
                      rw [eg358, zup_ne (Or.inl (by decide))]
                      exact u2
                    have o3 : g358 386 45 = 1 := by
                      rw [eg358, zup_ne (Or.inl (by decide))]
                      exact o2
                    have F3 : FRS ((kd, 0, bg) :: st) g358 := by
                      obtain ⟨c1, c2, c3, c4⟩ := F2
                      rw [eg358]
                      exact ⟨by rw [zup_ne (Or.inl (by decide))]; exact c1, zup_eq, by rw [zup_ne (Or.inl (by decide))]; exact c3, FRS_up (Nat.le_refl _) c4⟩
                    rw [ev] at eg363
                    have A4 : ATT t P i g363 := by
                      rw [eg363]
                      exact ATT_fr A3 fun _ _ _ => zup_ne (Or.inl (by decide))
                    have T4 : g363 387 = T := by rw [eg363, zup_na (by decide), T3]
                    have L4 : g363 386 2 = (L : Int) := by rw [eg363, zup_ne (Or.inl (by decide)), L3]
                    have d4 : g363 386 41 = (st.length : Int) + 1 := by
                      rw [eg363, zup_ne (Or.inl (by decide))]
                      exact d3
                    have u4 : g363 386 42 = (st.length : Int) := by
                      rw [eg363, zup_ne (Or.inl (by decide))]
                      exact u3
                    have o4 : g363 386 45 = 1 := by
                      rw [eg363, zup_ne (Or.inl (by decide))]
                      exact o3
                    have F4 : FRS ((kd, 0, true) :: st) g363 := by
                      obtain ⟨c1, c2, c3, c4⟩ := F3
                      rw [eg363]
                      exact ⟨by rw [zup_ne (Or.inl (by decide))]; exact c1, by rw [zup_ne (Or.inl (by decide))]; exact c2, zup_eq, FRS_up (Nat.le_refl _) c4⟩
                    have ha : AH T L (g363 386 5).toNat g369 := by
                      have z : AH (g363 387) (g363 386 2).toNat (g363 386 5).toNat g369 := qg369
                      rw [T4, L4] at z
                      exact z
                    have R5 : RSq t P e (.inl (i + 1)) g369 := rs_next (F := fun k => .inl (k + 1)) tk A4 hi (by omega) (by omega) rfl ha
                    have F5 := FRS_eq (rg369.a (by decide)) (rg369.a (by decide)) (rg369.a (by decide)) F4
                    have d5 := (rg369.s (a := 386) (k := 41) (by decide)).trans d4
                    have u5 := (rg369.s (a := 386) (k := 42) (by decide)).trans u4
                    have o5 := (rg369.s (a := 386) (k := 45) (by decide)).trans o4
                    have R6 : RSq t P e (.inl (i + 1)) g375 := by
                      rw [eg375]
                      exact RSq_sl R5 (by decide)
                    have F6 := FRS_o (a := 386) (m := 45) (v := 0) (by decide) F5
                    rw [← eg375] at F6
                    have d6 : g375 386 41 = (st.length : Int) + 1 := by
                      rw [eg375, zup_ne (Or.inr (by decide))]
                      exact d5
                    have u6 : g375 386 42 = (st.length : Int) := by
                      rw [eg375, zup_ne (Or.inr (by decide))]
                      exact u5
                    have o6 : g375 386 45 = 0 := by
                      rw [eg375, zup_eq]
                    have hl3 : (((kd, 0, true) : zFm) :: st).length = st.length + 1 := rfl
                    exact Or.inl ⟨rfl, _, _, _, am_ao ht1 (by omega) (fun z => by
                      cases y : opB t i with
                      | false => rfl
                      | true => exact absurd ⟨by omega, y⟩ n1) (aoB_of wo), ⟨R6.1, R6.2, by rw [d6, hl3]; omega, by rw [u6, hl3]; omega, F6, by simp⟩, o6⟩
            · skip
              intro x376 ex376 o21 o22 x380 ex380 o24 o25
              refine ⟨fun h26z => ?_, fun h26z => ?_⟩
              · skip
                exfalso
                omega
              · skip
                intro g389 eg389 g394 eg394
                have ep : x294 = ph := by rw [ex294, ev, f2]
                have ht1 := fc (by omega)
                refine Or.inr ⟨rfl, Or.inl ⟨flt t i, am_ph0 ht1 n1 n2 (by omega), ?_, ?_, ?_⟩⟩
                · rw [eg394, zup_ne (Or.inr (by decide)), eg389, zup_eq]
                  rfl
                · rw [eg394, zup_eq, ← att_flt A]
                  omega
                · show (0 : Int) < 1
                  decide
      · skip
        intro y399 ey399 x400 ex400
        refine ⟨fun h14z => ?_, fun h14z => ?_⟩
        · skip
          intro x403 ex403
          refine ⟨fun h16z => ?_, fun h16z => ?_⟩
          · skip
            exact ⟨hv1, rfl, hv2, fa, fc, fd, n1, n2, fun z => by
              rw [aoB_no (att_now A (w := 22) (a := 6385252) (OW_w (by decide) rfl) (fun y => by omega)) (att_now A (w := 21) (a := 28530) (OW_w (by decide) rfl) (fun y => by omega))] at z
              exact absurd z.2 (by decide)⟩
          · skip
            intro x409 ex409 o18 o19
            refine ⟨fun h20z => ?_, fun h20z => ?_⟩
            · skip
              intro x411 ex411 o22 o23
              refine ⟨fun h24z => ?_, fun h24z => ?_⟩
              · skip
                exfalso
                omega
              · skip
                intro x416 ex416
                refine ⟨fun h26z => ?_, fun h26z => ?_⟩
                · skip
                  intro g424 rg424
                  intro g431 rg431 g437 eg437 g442 eg442
                  refine ⟨fun g' => AH (g442 387) (g442 386 2).toNat (g442 386 5).toNat g', ?_, ?_⟩
                  · skip
                    have A0_ := A
                    have T0 := hT
                    have L0 := hL
                    have F0 : FRS ((kd, ph, bg) :: st) g := ⟨f1, f2, f3, f4⟩
                    have d0 : g 386 41 = (st.length : Int) + 1 := by omega
                    have u0 : g 386 42 = (st.length : Int) := by omega
                    have o0 := h45
                    have A1 : ATT t P i g424 := ATT_fr A0_ fun k k1 k2 => rg424.s (by
                      have hc : k = 3 ∨ k = 4 ∨ k = 5 ∨ k = 6 ∨ k = 7 ∨ k = 8 := by omega
                      rcases hc with z | z | z | z | z | z <;> subst z <;> decide)
                    have T1 := (rg424.a (a := 387) (by decide)).trans T0
                    have L1 := (rg424.s (a := 386) (k := 2) (by decide)).trans L0
                    have F1 := FRS_eq (rg424.a (by decide)) (rg424.a (by decide)) (rg424.a (by decide)) F0
                    have d1 := (rg424.s (a := 386) (k := 41) (by decide)).trans d0
                    have u1 := (rg424.s (a := 386) (k := 42) (by decide)).trans u0
                    have o1 := (rg424.s (a := 386) (k := 45) (by decide)).trans o0
                    have A2 : ATT t P i g431 := ATT_fr A1 fun k k1 k2 => rg431.s (by
                      have hc : k = 3 ∨ k = 4 ∨ k = 5 ∨ k = 6 ∨ k = 7 ∨ k = 8 := by omega
                      rcases hc with z | z | z | z | z | z <;> subst z <;> decide)
                    have T2 := (rg431.a (a := 387) (by decide)).trans T1
                    have L2 := (rg431.s (a := 386) (k := 2) (by decide)).trans L1
                    have F2 := FRS_eq (rg431.a (by decide)) (rg431.a (by decide)) (rg431.a (by decide)) F1
                    have d2 := (rg431.s (a := 386) (k := 41) (by decide)).trans d1
                    have u2 := (rg431.s (a := 386) (k := 42) (by decide)).trans u1
                    have o2 := (rg431.s (a := 386) (k := 45) (by decide)).trans o1
                    rw [ev] at eg437
                    have A3 : ATT t P i g437 := by
                      rw [eg437]
                      exact ATT_fr A2 fun _ _ _ => zup_ne (Or.inl (by decide))
                    have T3 : g437 387 = T := by rw [eg437, zup_na (by decide), T2]
                    have L3 : g437 386 2 = (L : Int) := by rw [eg437, zup_ne (Or.inl (by decide)), L2]
                    have d3 : g437 386 41 = (st.length : Int) + 1 := by
                      rw [eg437, zup_ne (Or.inl (by decide))]
                      exact d2
                    have u3 : g437 386 42 = (st.length : Int) := by
                      rw [eg437, zup_ne (Or.inl (by decide))]
                      exact u2
                    have o3 : g437 386 45 = 1 := by
                      rw [eg437, zup_ne (Or.inl (by decide))]
                      exact o2
                    have F3 : FRS ((kd, 0, bg) :: st) g437 := by
                      obtain ⟨c1, c2, c3, c4⟩ := F2
                      rw [eg437]
                      exact ⟨by rw [zup_ne (Or.inl (by decide))]; exact c1, zup_eq, by rw [zup_ne (Or.inl (by decide))]; exact c3, FRS_up (Nat.le_refl _) c4⟩
                    rw [ev] at eg442
                    have A4 : ATT t P i g442 := by
                      rw [eg442]
                      exact ATT_fr A3 fun _ _ _ => zup_ne (Or.inl (by decide))
                    have T4 : g442 387 = T := by rw [eg442, zup_na (by decide), T3]
                    have L4 : g442 386 2 = (L : Int) := by rw [eg442, zup_ne (Or.inl (by decide)), L3]
                    have d4 : g442 386 41 = (st.length : Int) + 1 := by
                      rw [eg442, zup_ne (Or.inl (by decide))]
                      exact d3
                    have u4 : g442 386 42 = (st.length : Int) := by
                      rw [eg442, zup_ne (Or.inl (by decide))]
                      exact u3
                    have o4 : g442 386 45 = 1 := by
                      rw [eg442, zup_ne (Or.inl (by decide))]
                      exact o3
                    have F4 : FRS ((kd, 0, true) :: st) g442 := by
                      obtain ⟨c1, c2, c3, c4⟩ := F3
                      rw [eg442]
                      exact ⟨by rw [zup_ne (Or.inl (by decide))]; exact c1, by rw [zup_ne (Or.inl (by decide))]; exact c2, zup_eq, FRS_up (Nat.le_refl _) c4⟩
                    have aa8 := A4.2.1
                    have aa9 := A4.2.2.2.1
                    exact w_2310 (by omega) (by omega) (by omega)
                  · skip
                    intro g448 rg448 qg448 g454 eg454
                    have ep : x409 = ph := by rw [ex409, ev, f2]
                    have ht1 := fc (by omega)
                    have wo : tokI t i = 22 ∨ tokI t i = 21 := by
                      first
                      | exact Or.inl ((att_own A (w := 22) (a := 6385252) (OW_w (by decide) rfl)).mpr ⟨by omega, by omega⟩)
                      | exact Or.inr ((att_own A (w := 21) (a := 28530) (OW_w (by decide) rfl)).mpr ⟨by omega, by omega⟩)
                    have nh : t.1 i = 2 := tokI_2 (by omega)
                    have A0_ := A
                    have T0 := hT
                    have L0 := hL
                    have F0 : FRS ((kd, ph, bg) :: st) g := ⟨f1, f2, f3, f4⟩
                    have d0 : g 386 41 = (st.length : Int) + 1 := by omega
                    have u0 : g 386 42 = (st.length : Int) := by omega
                    have o0 := h45
                    have A1 : ATT t P i g424 := ATT_fr A0_ fun k k1 k2 => rg424.s (by
                      have hc : k = 3 ∨ k = 4 ∨ k = 5 ∨ k = 6 ∨ k = 7 ∨ k = 8 := by omega
                      rcases hc with z | z | z | z | z | z <;> subst z <;> decide)
                    have T1 := (rg424.a (a := 387) (by decide)).trans T0
                    have L1 := (rg424.s (a := 386) (k := 2) (by decide)).trans L0
                    have F1 := FRS_eq (rg424.a (by decide)) (rg424.a (by decide)) (rg424.a (by decide)) F0
                    have d1 := (rg424.s (a := 386) (k := 41) (by decide)).trans d0
                    have u1 := (rg424.s (a := 386) (k := 42) (by decide)).trans u0
                    have o1 := (rg424.s (a := 386) (k := 45) (by decide)).trans o0
                    have A2 : ATT t P i g431 := ATT_fr A1 fun k k1 k2 => rg431.s (by
                      have hc : k = 3 ∨ k = 4 ∨ k = 5 ∨ k = 6 ∨ k = 7 ∨ k = 8 := by omega
                      rcases hc with z | z | z | z | z | z <;> subst z <;> decide)
                    have T2 := (rg431.a (a := 387) (by decide)).trans T1
                    have L2 := (rg431.s (a := 386) (k := 2) (by decide)).trans L1
                    have F2 := FRS_eq (rg431.a (by decide)) (rg431.a (by decide)) (rg431.a (by decide)) F1
                    have d2 := (rg431.s (a := 386) (k := 41) (by decide)).trans d1
                    have u2 := (rg431.s (a := 386) (k := 42) (by decide)).trans u1
                    have o2 := (rg431.s (a := 386) (k := 45) (by decide)).trans o1
                    rw [ev] at eg437
                    have A3 : ATT t P i g437 := by
                      rw [eg437]
                      exact ATT_fr A2 fun _ _ _ => zup_ne (Or.inl (by decide))
                    have T3 : g437 387 = T := by rw [eg437, zup_na (by decide), T2]
                    have L3 : g437 386 2 = (L : Int) := by rw [eg437, zup_ne (Or.inl (by decide)), L2]
                    have d3 : g437 386 41 = (st.length : Int) + 1 := by
                      rw [eg437, zup_ne (Or.inl (by decide))]
                      exact d2
                    have u3 : g437 386 42 = (st.length : Int) := by
                      rw [eg437, zup_ne (Or.inl (by decide))]
                      exact u2
                    have o3 : g437 386 45 = 1 := by
                      rw [eg437, zup_ne (Or.inl (by decide))]
                      exact o2
                    have F3 : FRS ((kd, 0, bg) :: st) g437 := by
                      obtain ⟨c1, c2, c3, c4⟩ := F2
                      rw [eg437]
                      exact ⟨by rw [zup_ne (Or.inl (by decide))]; exact c1, zup_eq, by rw [zup_ne (Or.inl (by decide))]; exact c3, FRS_up (Nat.le_refl _) c4⟩
                    rw [ev] at eg442
                    have A4 : ATT t P i g442 := by
                      rw [eg442]
                      exact ATT_fr A3 fun _ _ _ => zup_ne (Or.inl (by decide))
                    have T4 : g442 387 = T := by rw [eg442, zup_na (by decide), T3]
                    have L4 : g442 386 2 = (L : Int) := by rw [eg442, zup_ne (Or.inl (by decide)), L3]
                    have d4 : g442 386 41 = (st.length : Int) + 1 := by
                      rw [eg442, zup_ne (Or.inl (by decide))]
                      exact d3
                    have u4 : g442 386 42 = (st.length : Int) := by
                      rw [eg442, zup_ne (Or.inl (by decide))]
                      exact u3
                    have o4 : g442 386 45 = 1 := by
                      rw [eg442, zup_ne (Or.inl (by decide))]
                      exact o3
                    have F4 : FRS ((kd, 0, true) :: st) g442 := by
                      obtain ⟨c1, c2, c3, c4⟩ := F3
                      rw [eg442]
                      exact ⟨by rw [zup_ne (Or.inl (by decide))]; exact c1, by rw [zup_ne (Or.inl (by decide))]; exact c2, zup_eq, FRS_up (Nat.le_refl _) c4⟩
                    have ha : AH T L (g442 386 5).toNat g448 := by
                      have z : AH (g442 387) (g442 386 2).toNat (g442 386 5).toNat g448 := qg448
                      rw [T4, L4] at z
                      exact z
                    have R5 : RSq t P e (.inl (i + 1)) g448 := rs_next (F := fun k => .inl (k + 1)) tk A4 hi (by omega) (by omega) rfl ha
                    have F5 := FRS_eq (rg448.a (by decide)) (rg448.a (by decide)) (rg448.a (by decide)) F4
                    have d5 := (rg448.s (a := 386) (k := 41) (by decide)).trans d4
                    have u5 := (rg448.s (a := 386) (k := 42) (by decide)).trans u4
                    have o5 := (rg448.s (a := 386) (k := 45) (by decide)).trans o4
                    have R6 : RSq t P e (.inl (i + 1)) g454 := by
                      rw [eg454]
                      exact RSq_sl R5 (by decide)
                    have F6 := FRS_o (a := 386) (m := 45) (v := 0) (by decide) F5
                    rw [← eg454] at F6
                    have d6 : g454 386 41 = (st.length : Int) + 1 := by
                      rw [eg454, zup_ne (Or.inr (by decide))]
                      exact d5
                    have u6 : g454 386 42 = (st.length : Int) := by
                      rw [eg454, zup_ne (Or.inr (by decide))]
                      exact u5
                    have o6 : g454 386 45 = 0 := by
                      rw [eg454, zup_eq]
                    have hl3 : (((kd, 0, true) : zFm) :: st).length = st.length + 1 := rfl
                    exact Or.inl ⟨rfl, _, _, _, am_ao ht1 (by omega) (fun z => by
                      cases y : opB t i with
                      | false => rfl
                      | true => exact absurd ⟨by omega, y⟩ n1) (aoB_of wo), ⟨R6.1, R6.2, by rw [d6, hl3]; omega, by rw [u6, hl3]; omega, F6, by simp⟩, o6⟩
                · skip
                  intro g460 rg460
                  intro g467 rg467 g473 eg473 g478 eg478
                  refine ⟨fun g' => AH (g478 387) (g478 386 2).toNat (g478 386 5).toNat g', ?_, ?_⟩
                  · skip
                    have A0_ := A
                    have T0 := hT
                    have L0 := hL
                    have F0 : FRS ((kd, ph, bg) :: st) g := ⟨f1, f2, f3, f4⟩
                    have d0 : g 386 41 = (st.length : Int) + 1 := by omega
                    have u0 : g 386 42 = (st.length : Int) := by omega
                    have o0 := h45
                    have A1 : ATT t P i g460 := ATT_fr A0_ fun k k1 k2 => rg460.s (by
                      have hc : k = 3 ∨ k = 4 ∨ k = 5 ∨ k = 6 ∨ k = 7 ∨ k = 8 := by omega
                      rcases hc with z | z | z | z | z | z <;> subst z <;> decide)
                    have T1 := (rg460.a (a := 387) (by decide)).trans T0
                    have L1 := (rg460.s (a := 386) (k := 2) (by decide)).trans L0
                    have F1 := FRS_eq (rg460.a (by decide)) (rg460.a (by decide)) (rg460.a (by decide)) F0
                    have d1 := (rg460.s (a := 386) (k := 41) (by decide)).trans d0
                    have u1 := (rg460.s (a := 386) (k := 42) (by decide)).trans u0
                    have o1 := (rg460.s (a := 386) (k := 45) (by decide)).trans o0
                    have A2 : ATT t P i g467 := ATT_fr A1 fun k k1 k2 => rg467.s (by
                      have hc : k = 3 ∨ k = 4 ∨ k = 5 ∨ k = 6 ∨ k = 7 ∨ k = 8 := by omega
                      rcases hc with z | z | z | z | z | z <;> subst z <;> decide)
                    have T2 := (rg467.a (a := 387) (by decide)).trans T1
                    have L2 := (rg467.s (a := 386) (k := 2) (by decide)).trans L1
                    have F2 := FRS_eq (rg467.a (by decide)) (rg467.a (by decide)) (rg467.a (by decide)) F1
                    have d2 := (rg467.s (a := 386) (k := 41) (by decide)).trans d1
                    have u2 := (rg467.s (a := 386) (k := 42) (by decide)).trans u1
                    have o2 := (rg467.s (a := 386) (k := 45) (by decide)).trans o1
                    rw [ev] at eg473
                    have A3 : ATT t P i g473 := by
                      rw [eg473]
                      exact ATT_fr A2 fun _ _ _ => zup_ne (Or.inl (by decide))
                    have T3 : g473 387 = T := by rw [eg473, zup_na (by decide), T2]
                    have L3 : g473 386 2 = (L : Int) := by rw [eg473, zup_ne (Or.inl (by decide)), L2]
                    have d3 : g473 386 41 = (st.length : Int) + 1 := by
                      rw [eg473, zup_ne (Or.inl (by decide))]
                      exact d2
                    have u3 : g473 386 42 = (st.length : Int) := by
                      rw [eg473, zup_ne (Or.inl (by decide))]
                      exact u2
                    have o3 : g473 386 45 = 1 := by
                      rw [eg473, zup_ne (Or.inl (by decide))]
                      exact o2
                    have F3 : FRS ((kd, 0, bg) :: st) g473 := by
                      obtain ⟨c1, c2, c3, c4⟩ := F2
                      rw [eg473]
                      exact ⟨by rw [zup_ne (Or.inl (by decide))]; exact c1, zup_eq, by rw [zup_ne (Or.inl (by decide))]; exact c3, FRS_up (Nat.le_refl _) c4⟩
                    rw [ev] at eg478
                    have A4 : ATT t P i g478 := by
                      rw [eg478]
                      exact ATT_fr A3 fun _ _ _ => zup_ne (Or.inl (by decide))
                    have T4 : g478 387 = T := by rw [eg478, zup_na (by decide), T3]
                    have L4 : g478 386 2 = (L : Int) := by rw [eg478, zup_ne (Or.inl (by decide)), L3]
                    have d4 : g478 386 41 = (st.length : Int) + 1 := by
                      rw [eg478, zup_ne (Or.inl (by decide))]
                      exact d3
                    have u4 : g478 386 42 = (st.length : Int) := by
                      rw [eg478, zup_ne (Or.inl (by decide))]
                      exact u3
                    have o4 : g478 386 45 = 1 := by
                      rw [eg478, zup_ne (Or.inl (by decide))]
                      exact o3
                    have F4 : FRS ((kd, 0, true) :: st) g478 := by
                      obtain ⟨c1, c2, c3, c4⟩ := F3
                      rw [eg478]
                      exact ⟨by rw [zup_ne (Or.inl (by decide))]; exact c1, by rw [zup_ne (Or.inl (by decide))]; exact c2, zup_eq, FRS_up (Nat.le_refl _) c4⟩
                    have aa8 := A4.2.1
                    have aa9 := A4.2.2.2.1
                    exact w_2310 (by omega) (by omega) (by omega)
                  · skip
                    intro g484 rg484 qg484 g490 eg490
                    have ep : x409 = ph := by rw [ex409, ev, f2]
                    have ht1 := fc (by omega)
                    have wo : tokI t i = 22 ∨ tokI t i = 21 := by
                      first
                      | exact Or.inl ((att_own A (w := 22) (a := 6385252) (OW_w (by decide) rfl)).mpr ⟨by omega, by omega⟩)
                      | exact Or.inr ((att_own A (w := 21) (a := 28530) (OW_w (by decide) rfl)).mpr ⟨by omega, by omega⟩)
                    have nh : t.1 i = 2 := tokI_2 (by omega)
                    have A0_ := A
                    have T0 := hT
                    have L0 := hL
                    have F0 : FRS ((kd, ph, bg) :: st) g := ⟨f1, f2, f3, f4⟩
                    have d0 : g 386 41 = (st.length : Int) + 1 := by omega
                    have u0 : g 386 42 = (st.length : Int) := by omega
                    have o0 := h45
                    have A1 : ATT t P i g460 := ATT_fr A0_ fun k k1 k2 => rg460.s (by
                      have hc : k = 3 ∨ k = 4 ∨ k = 5 ∨ k = 6 ∨ k = 7 ∨ k = 8 := by omega
                      rcases hc with z | z | z | z | z | z <;> subst z <;> decide)
                    have T1 := (rg460.a (a := 387) (by decide)).trans T0
                    have L1 := (rg460.s (a := 386) (k := 2) (by decide)).trans L0
                    have F1 := FRS_eq (rg460.a (by decide)) (rg460.a (by decide)) (rg460.a (by decide)) F0
                    have d1 := (rg460.s (a := 386) (k := 41) (by decide)).trans d0
                    have u1 := (rg460.s (a := 386) (k := 42) (by decide)).trans u0
                    have o1 := (rg460.s (a := 386) (k := 45) (by decide)).trans o0
                    have A2 : ATT t P i g467 := ATT_fr A1 fun k k1 k2 => rg467.s (by
                      have hc : k = 3 ∨ k = 4 ∨ k = 5 ∨ k = 6 ∨ k = 7 ∨ k = 8 := by omega
                      rcases hc with z | z | z | z | z | z <;> subst z <;> decide)
                    have T2 := (rg467.a (a := 387) (by decide)).trans T1
                    have L2 := (rg467.s (a := 386) (k := 2) (by decide)).trans L1
                    have F2 := FRS_eq (rg467.a (by decide)) (rg467.a (by decide)) (rg467.a (by decide)) F1
                    have d2 := (rg467.s (a := 386) (k := 41) (by decide)).trans d1
                    have u2 := (rg467.s (a := 386) (k := 42) (by decide)).trans u1
                    have o2 := (rg467.s (a := 386) (k := 45) (by decide)).trans o1
                    rw [ev] at eg473
                    have A3 : ATT t P i g473 := by
                      rw [eg473]
                      exact ATT_fr A2 fun _ _ _ => zup_ne (Or.inl (by decide))
                    have T3 : g473 387 = T := by rw [eg473, zup_na (by decide), T2]
                    have L3 : g473 386 2 = (L : Int) := by rw [eg473, zup_ne (Or.inl (by decide)), L2]
                    have d3 : g473 386 41 = (st.length : Int) + 1 := by
                      rw [eg473, zup_ne (Or.inl (by decide))]
                      exact d2
                    have u3 : g473 386 42 = (st.length : Int) := by
                      rw [eg473, zup_ne (Or.inl (by decide))]
                      exact u2
                    have o3 : g473 386 45 = 1 := by
                      rw [eg473, zup_ne (Or.inl (by decide))]
                      exact o2
                    have F3 : FRS ((kd, 0, bg) :: st) g473 := by
                      obtain ⟨c1, c2, c3, c4⟩ := F2
                      rw [eg473]
                      exact ⟨by rw [zup_ne (Or.inl (by decide))]; exact c1, zup_eq, by rw [zup_ne (Or.inl (by decide))]; exact c3, FRS_up (Nat.le_refl _) c4⟩
                    rw [ev] at eg478
                    have A4 : ATT t P i g478 := by
                      rw [eg478]
                      exact ATT_fr A3 fun _ _ _ => zup_ne (Or.inl (by decide))
                    have T4 : g478 387 = T := by rw [eg478, zup_na (by decide), T3]
                    have L4 : g478 386 2 = (L : Int) := by rw [eg478, zup_ne (Or.inl (by decide)), L3]
                    have d4 : g478 386 41 = (st.length : Int) + 1 := by
                      rw [eg478, zup_ne (Or.inl (by decide))]
                      exact d3
                    have u4 : g478 386 42 = (st.length : Int) := by
                      rw [eg478, zup_ne (Or.inl (by decide))]
                      exact u3
                    have o4 : g478 386 45 = 1 := by
                      rw [eg478, zup_ne (Or.inl (by decide))]
                      exact o3
                    have F4 : FRS ((kd, 0, true) :: st) g478 := by
                      obtain ⟨c1, c2, c3, c4⟩ := F3
                      rw [eg478]
                      exact ⟨by rw [zup_ne (Or.inl (by decide))]; exact c1, by rw [zup_ne (Or.inl (by decide))]; exact c2, zup_eq, FRS_up (Nat.le_refl _) c4⟩
                    have ha : AH T L (g478 386 5).toNat g484 := by
                      have z : AH (g478 387) (g478 386 2).toNat (g478 386 5).toNat g484 := qg484
                      rw [T4, L4] at z
                      exact z
                    have R5 : RSq t P e (.inl (i + 1)) g484 := rs_next (F := fun k => .inl (k + 1)) tk A4 hi (by omega) (by omega) rfl ha
                    have F5 := FRS_eq (rg484.a (by decide)) (rg484.a (by decide)) (rg484.a (by decide)) F4
                    have d5 := (rg484.s (a := 386) (k := 41) (by decide)).trans d4
                    have u5 := (rg484.s (a := 386) (k := 42) (by decide)).trans u4
                    have o5 := (rg484.s (a := 386) (k := 45) (by decide)).trans o4
                    have R6 : RSq t P e (.inl (i + 1)) g490 := by
                      rw [eg490]
                      exact RSq_sl R5 (by decide)
                    have F6 := FRS_o (a := 386) (m := 45) (v := 0) (by decide) F5
                    rw [← eg490] at F6
                    have d6 : g490 386 41 = (st.length : Int) + 1 := by
                      rw [eg490, zup_ne (Or.inr (by decide))]
                      exact d5
                    have u6 : g490 386 42 = (st.length : Int) := by
                      rw [eg490, zup_ne (Or.inr (by decide))]
                      exact u5
                    have o6 : g490 386 45 = 0 := by
                      rw [eg490, zup_eq]
                    have hl3 : (((kd, 0, true) : zFm) :: st).length = st.length + 1 := rfl
                    exact Or.inl ⟨rfl, _, _, _, am_ao ht1 (by omega) (fun z => by
                      cases y : opB t i with
                      | false => rfl
                      | true => exact absurd ⟨by omega, y⟩ n1) (aoB_of wo), ⟨R6.1, R6.2, by rw [d6, hl3]; omega, by rw [u6, hl3]; omega, F6, by simp⟩, o6⟩
            · skip
              intro x491 ex491 o22 o23 x495 ex495 o25 o26
              refine ⟨fun h27z => ?_, fun h27z => ?_⟩
              · skip
                exfalso
                omega
              · skip
                intro g504 eg504 g509 eg509
                have ep : x409 = ph := by rw [ex409, ev, f2]
                have ht1 := fc (by omega)
                refine Or.inr ⟨rfl, Or.inl ⟨flt t i, am_ph0 ht1 n1 n2 (by omega), ?_, ?_, ?_⟩⟩
                · rw [eg509, zup_ne (Or.inr (by decide)), eg504, zup_eq]
                  rfl
                · rw [eg509, zup_eq, ← att_flt A]
                  omega
                · show (0 : Int) < 1
                  decide
        · skip
          intro x514 ex514 o16 o17
          refine ⟨fun h18z => ?_, fun h18z => ?_⟩
          · skip
            intro x516 ex516 o20 o21
            refine ⟨fun h22z => ?_, fun h22z => ?_⟩
            · skip
              exfalso
              omega
            · skip
              intro x521 ex521
              refine ⟨fun h24z => ?_, fun h24z => ?_⟩
              · skip
                intro g529 rg529
                intro g536 rg536 g542 eg542 g547 eg547
                refine ⟨fun g' => AH (g547 387) (g547 386 2).toNat (g547 386 5).toNat g', ?_, ?_⟩
                · skip
                  have A0_ := A
                  have T0 := hT
                  have L0 := hL
                  have F0 : FRS ((kd, ph, bg) :: st) g := ⟨f1, f2, f3, f4⟩
                  have d0 : g 386 41 = (st.length : Int) + 1 := by omega
                  have u0 : g 386 42 = (st.length : Int) := by omega
                  have o0 := h45
                  have A1 : ATT t P i g529 := ATT_fr A0_ fun k k1 k2 => rg529.s (by
                    have hc : k = 3 ∨ k = 4 ∨ k = 5 ∨ k = 6 ∨ k = 7 ∨ k = 8 := by omega
                    rcases hc with z | z | z | z | z | z <;> subst z <;> decide)
                  have T1 := (rg529.a (a := 387) (by decide)).trans T0
                  have L1 := (rg529.s (a := 386) (k := 2) (by decide)).trans L0
                  have F1 := FRS_eq (rg529.a (by decide)) (rg529.a (by decide)) (rg529.a (by decide)) F0
                  have d1 := (rg529.s (a := 386) (k := 41) (by decide)).trans d0
                  have u1 := (rg529.s (a := 386) (k := 42) (by decide)).trans u0
                  have o1 := (rg529.s (a := 386) (k := 45) (by decide)).trans o0
                  have A2 : ATT t P i g536 := ATT_fr A1 fun k k1 k2 => rg536.s (by
                    have hc : k = 3 ∨ k = 4 ∨ k = 5 ∨ k = 6 ∨ k = 7 ∨ k = 8 := by omega
                    rcases hc with z | z | z | z | z | z <;> subst z <;> decide)
                  have T2 := (rg536.a (a := 387) (by decide)).trans T1
                  have L2 := (rg536.s (a := 386) (k := 2) (by decide)).trans L1
                  have F2 := FRS_eq (rg536.a (by decide)) (rg536.a (by decide)) (rg536.a (by decide)) F1
                  have d2 := (rg536.s (a := 386) (k := 41) (by decide)).trans d1
                  have u2 := (rg536.s (a := 386) (k := 42) (by decide)).trans u1
                  have o2 := (rg536.s (a := 386) (k := 45) (by decide)).trans o1
                  rw [ev] at eg542
                  have A3 : ATT t P i g542 := by
                    rw [eg542]
                    exact ATT_fr A2 fun _ _ _ => zup_ne (Or.inl (by decide))
                  have T3 : g542 387 = T := by rw [eg542, zup_na (by decide), T2]
                  have L3 : g542 386 2 = (L : Int) := by rw [eg542, zup_ne (Or.inl (by decide)), L2]
                  have d3 : g542 386 41 = (st.length : Int) + 1 := by
                    rw [eg542, zup_ne (Or.inl (by decide))]
                    exact d2
                  have u3 : g542 386 42 = (st.length : Int) := by
                    rw [eg542, zup_ne (Or.inl (by decide))]
                    exact u2
                  have o3 : g542 386 45 = 1 := by
                    rw [eg542, zup_ne (Or.inl (by decide))]
                    exact o2
                  have F3 : FRS ((kd, 0, bg) :: st) g542 := by
                    obtain ⟨c1, c2, c3, c4⟩ := F2
                    rw [eg542]
                    exact ⟨by rw [zup_ne (Or.inl (by decide))]; exact c1, zup_eq, by rw [zup_ne (Or.inl (by decide))]; exact c3, FRS_up (Nat.le_refl _) c4⟩
                  rw [ev] at eg547
                  have A4 : ATT t P i g547 := by
                    rw [eg547]
                    exact ATT_fr A3 fun _ _ _ => zup_ne (Or.inl (by decide))
                  have T4 : g547 387 = T := by rw [eg547, zup_na (by decide), T3]
                  have L4 : g547 386 2 = (L : Int) := by rw [eg547, zup_ne (Or.inl (by decide)), L3]
                  have d4 : g547 386 41 = (st.length : Int) + 1 := by
                    rw [eg547, zup_ne (Or.inl (by decide))]
                    exact d3
                  have u4 : g547 386 42 = (st.length : Int) := by
                    rw [eg547, zup_ne (Or.inl (by decide))]
                    exact u3
                  have o4 : g547 386 45 = 1 := by
                    rw [eg547, zup_ne (Or.inl (by decide))]
                    exact o3
                  have F4 : FRS ((kd, 0, true) :: st) g547 := by
                    obtain ⟨c1, c2, c3, c4⟩ := F3
                    rw [eg547]
                    exact ⟨by rw [zup_ne (Or.inl (by decide))]; exact c1, by rw [zup_ne (Or.inl (by decide))]; exact c2, zup_eq, FRS_up (Nat.le_refl _) c4⟩
                  have aa8 := A4.2.1
                  have aa9 := A4.2.2.2.1
                  exact w_2310 (by omega) (by omega) (by omega)
                · skip
                  intro g553 rg553 qg553 g559 eg559
                  have ep : x514 = ph := by rw [ex514, ev, f2]
                  have ht1 := fc (by omega)
                  have wo : tokI t i = 22 ∨ tokI t i = 21 := by
                    first
                    | exact Or.inl ((att_own A (w := 22) (a := 6385252) (OW_w (by decide) rfl)).mpr ⟨by omega, by omega⟩)
                    | exact Or.inr ((att_own A (w := 21) (a := 28530) (OW_w (by decide) rfl)).mpr ⟨by omega, by omega⟩)
                  have nh : t.1 i = 2 := tokI_2 (by omega)
                  have A0_ := A
                  have T0 := hT
                  have L0 := hL
                  have F0 : FRS ((kd, ph, bg) :: st) g := ⟨f1, f2, f3, f4⟩
                  have d0 : g 386 41 = (st.length : Int) + 1 := by omega
                  have u0 : g 386 42 = (st.length : Int) := by omega
                  have o0 := h45
                  have A1 : ATT t P i g529 := ATT_fr A0_ fun k k1 k2 => rg529.s (by
                    have hc : k = 3 ∨ k = 4 ∨ k = 5 ∨ k = 6 ∨ k = 7 ∨ k = 8 := by omega
                    rcases hc with z | z | z | z | z | z <;> subst z <;> decide)
                  have T1 := (rg529.a (a := 387) (by decide)).trans T0
                  have L1 := (rg529.s (a := 386) (k := 2) (by decide)).trans L0
                  have F1 := FRS_eq (rg529.a (by decide)) (rg529.a (by decide)) (rg529.a (by decide)) F0
                  have d1 := (rg529.s (a := 386) (k := 41) (by decide)).trans d0
                  have u1 := (rg529.s (a := 386) (k := 42) (by decide)).trans u0
                  have o1 := (rg529.s (a := 386) (k := 45) (by decide)).trans o0
                  have A2 : ATT t P i g536 := ATT_fr A1 fun k k1 k2 => rg536.s (by
                    have hc : k = 3 ∨ k = 4 ∨ k = 5 ∨ k = 6 ∨ k = 7 ∨ k = 8 := by omega
                    rcases hc with z | z | z | z | z | z <;> subst z <;> decide)
                  have T2 := (rg536.a (a := 387) (by decide)).trans T1
                  have L2 := (rg536.s (a := 386) (k := 2) (by decide)).trans L1
                  have F2 := FRS_eq (rg536.a (by decide)) (rg536.a (by decide)) (rg536.a (by decide)) F1
                  have d2 := (rg536.s (a := 386) (k := 41) (by decide)).trans d1
                  have u2 := (rg536.s (a := 386) (k := 42) (by decide)).trans u1
                  have o2 := (rg536.s (a := 386) (k := 45) (by decide)).trans o1
                  rw [ev] at eg542
                  have A3 : ATT t P i g542 := by
                    rw [eg542]
                    exact ATT_fr A2 fun _ _ _ => zup_ne (Or.inl (by decide))
                  have T3 : g542 387 = T := by rw [eg542, zup_na (by decide), T2]
                  have L3 : g542 386 2 = (L : Int) := by rw [eg542, zup_ne (Or.inl (by decide)), L2]
                  have d3 : g542 386 41 = (st.length : Int) + 1 := by
                    rw [eg542, zup_ne (Or.inl (by decide))]
                    exact d2
                  have u3 : g542 386 42 = (st.length : Int) := by
                    rw [eg542, zup_ne (Or.inl (by decide))]
                    exact u2
                  have o3 : g542 386 45 = 1 := by
                    rw [eg542, zup_ne (Or.inl (by decide))]
                    exact o2
                  have F3 : FRS ((kd, 0, bg) :: st) g542 := by
                    obtain ⟨c1, c2, c3, c4⟩ := F2
                    rw [eg542]
                    exact ⟨by rw [zup_ne (Or.inl (by decide))]; exact c1, zup_eq, by rw [zup_ne (Or.inl (by decide))]; exact c3, FRS_up (Nat.le_refl _) c4⟩
                  rw [ev] at eg547
                  have A4 : ATT t P i g547 := by
                    rw [eg547]
                    exact ATT_fr A3 fun _ _ _ => zup_ne (Or.inl (by decide))
                  have T4 : g547 387 = T := by rw [eg547, zup_na (by decide), T3]
                  have L4 : g547 386 2 = (L : Int) := by rw [eg547, zup_ne (Or.inl (by decide)), L3]
                  have d4 : g547 386 41 = (st.length : Int) + 1 := by
                    rw [eg547, zup_ne (Or.inl (by decide))]
                    exact d3
                  have u4 : g547 386 42 = (st.length : Int) := by
                    rw [eg547, zup_ne (Or.inl (by decide))]
                    exact u3
                  have o4 : g547 386 45 = 1 := by
                    rw [eg547, zup_ne (Or.inl (by decide))]
                    exact o3
                  have F4 : FRS ((kd, 0, true) :: st) g547 := by
                    obtain ⟨c1, c2, c3, c4⟩ := F3
                    rw [eg547]
                    exact ⟨by rw [zup_ne (Or.inl (by decide))]; exact c1, by rw [zup_ne (Or.inl (by decide))]; exact c2, zup_eq, FRS_up (Nat.le_refl _) c4⟩
                  have ha : AH T L (g547 386 5).toNat g553 := by
                    have z : AH (g547 387) (g547 386 2).toNat (g547 386 5).toNat g553 := qg553
                    rw [T4, L4] at z
                    exact z
                  have R5 : RSq t P e (.inl (i + 1)) g553 := rs_next (F := fun k => .inl (k + 1)) tk A4 hi (by omega) (by omega) rfl ha
                  have F5 := FRS_eq (rg553.a (by decide)) (rg553.a (by decide)) (rg553.a (by decide)) F4
                  have d5 := (rg553.s (a := 386) (k := 41) (by decide)).trans d4
                  have u5 := (rg553.s (a := 386) (k := 42) (by decide)).trans u4
                  have o5 := (rg553.s (a := 386) (k := 45) (by decide)).trans o4
                  have R6 : RSq t P e (.inl (i + 1)) g559 := by
                    rw [eg559]
                    exact RSq_sl R5 (by decide)
                  have F6 := FRS_o (a := 386) (m := 45) (v := 0) (by decide) F5
                  rw [← eg559] at F6
                  have d6 : g559 386 41 = (st.length : Int) + 1 := by
                    rw [eg559, zup_ne (Or.inr (by decide))]
                    exact d5
                  have u6 : g559 386 42 = (st.length : Int) := by
                    rw [eg559, zup_ne (Or.inr (by decide))]
                    exact u5
                  have o6 : g559 386 45 = 0 := by
                    rw [eg559, zup_eq]
                  have hl3 : (((kd, 0, true) : zFm) :: st).length = st.length + 1 := rfl
                  exact Or.inl ⟨rfl, _, _, _, am_ao ht1 (by omega) (fun z => by
                    cases y : opB t i with
                    | false => rfl
                    | true => exact absurd ⟨by omega, y⟩ n1) (aoB_of wo), ⟨R6.1, R6.2, by rw [d6, hl3]; omega, by rw [u6, hl3]; omega, F6, by simp⟩, o6⟩
              · skip
                intro g565 rg565
                intro g572 rg572 g578 eg578 g583 eg583
                refine ⟨fun g' => AH (g583 387) (g583 386 2).toNat (g583 386 5).toNat g', ?_, ?_⟩
                · skip
                  have A0_ := A
                  have T0 := hT
                  have L0 := hL
                  have F0 : FRS ((kd, ph, bg) :: st) g := ⟨f1, f2, f3, f4⟩
                  have d0 : g 386 41 = (st.length : Int) + 1 := by omega
                  have u0 : g 386 42 = (st.length : Int) := by omega
                  have o0 := h45
                  have A1 : ATT t P i g565 := ATT_fr A0_ fun k k1 k2 => rg565.s (by
                    have hc : k = 3 ∨ k = 4 ∨ k = 5 ∨ k = 6 ∨ k = 7 ∨ k = 8 := by omega
                    rcases hc with z | z | z | z | z | z <;> subst z <;> decide)
                  have T1 := (rg565.a (a := 387) (by decide)).trans T0
                  have L1 := (rg565.s (a := 386) (k := 2) (by decide)).trans L0
                  have F1 := FRS_eq (rg565.a (by decide)) (rg565.a (by decide)) (rg565.a (by decide)) F0
                  have d1 := (rg565.s (a := 386) (k := 41) (by decide)).trans d0
                  have u1 := (rg565.s (a := 386) (k := 42) (by decide)).trans u0
                  have o1 := (rg565.s (a := 386) (k := 45) (by decide)).trans o0
                  have A2 : ATT t P i g572 := ATT_fr A1 fun k k1 k2 => rg572.s (by
                    have hc : k = 3 ∨ k = 4 ∨ k = 5 ∨ k = 6 ∨ k = 7 ∨ k = 8 := by omega
                    rcases hc with z | z | z | z | z | z <;> subst z <;> decide)
                  have T2 := (rg572.a (a := 387) (by decide)).trans T1
                  have L2 := (rg572.s (a := 386) (k := 2) (by decide)).trans L1
                  have F2 := FRS_eq (rg572.a (by decide)) (rg572.a (by decide)) (rg572.a (by decide)) F1
                  have d2 := (rg572.s (a := 386) (k := 41) (by decide)).trans d1
                  have u2 := (rg572.s (a := 386) (k := 42) (by decide)).trans u1
                  have o2 := (rg572.s (a := 386) (k := 45) (by decide)).trans o1
                  rw [ev] at eg578
                  have A3 : ATT t P i g578 := by
                    rw [eg578]
                    exact ATT_fr A2 fun _ _ _ => zup_ne (Or.inl (by decide))
                  have T3 : g578 387 = T := by rw [eg578, zup_na (by decide), T2]
                  have L3 : g578 386 2 = (L : Int) := by rw [eg578, zup_ne (Or.inl (by decide)), L2]
                  have d3 : g578 386 41 = (st.length : Int) + 1 := by
                    rw [eg578, zup_ne (Or.inl (by decide))]
                    exact d2
                  have u3 : g578 386 42 = (st.length : Int) := by
                    rw [eg578, zup_ne (Or.inl (by decide))]
                    exact u2
                  have o3 : g578 386 45 = 1 := by
                    rw [eg578, zup_ne (Or.inl (by decide))]
                    exact o2
                  have F3 : FRS ((kd, 0, bg) :: st) g578 := by
                    obtain ⟨c1, c2, c3, c4⟩ := F2
                    rw [eg578]
                    exact ⟨by rw [zup_ne (Or.inl (by decide))]; exact c1, zup_eq, by rw [zup_ne (Or.inl (by decide))]; exact c3, FRS_up (Nat.le_refl _) c4⟩
                  rw [ev] at eg583
                  have A4 : ATT t P i g583 := by
                    rw [eg583]
                    exact ATT_fr A3 fun _ _ _ => zup_ne (Or.inl (by decide))
                  have T4 : g583 387 = T := by rw [eg583, zup_na (by decide), T3]
                  have L4 : g583 386 2 = (L : Int) := by rw [eg583, zup_ne (Or.inl (by decide)), L3]
                  have d4 : g583 386 41 = (st.length : Int) + 1 := by
                    rw [eg583, zup_ne (Or.inl (by decide))]
                    exact d3
                  have u4 : g583 386 42 = (st.length : Int) := by
                    rw [eg583, zup_ne (Or.inl (by decide))]
                    exact u3
                  have o4 : g583 386 45 = 1 := by
                    rw [eg583, zup_ne (Or.inl (by decide))]
                    exact o3
                  have F4 : FRS ((kd, 0, true) :: st) g583 := by
                    obtain ⟨c1, c2, c3, c4⟩ := F3
                    rw [eg583]
                    exact ⟨by rw [zup_ne (Or.inl (by decide))]; exact c1, by rw [zup_ne (Or.inl (by decide))]; exact c2, zup_eq, FRS_up (Nat.le_refl _) c4⟩
                  have aa8 := A4.2.1
                  have aa9 := A4.2.2.2.1
                  exact w_2310 (by omega) (by omega) (by omega)
                · skip
                  intro g589 rg589 qg589 g595 eg595
                  have ep : x514 = ph := by rw [ex514, ev, f2]
                  have ht1 := fc (by omega)
                  have wo : tokI t i = 22 ∨ tokI t i = 21 := by
                    first
                    | exact Or.inl ((att_own A (w := 22) (a := 6385252) (OW_w (by decide) rfl)).mpr ⟨by omega, by omega⟩)
                    | exact Or.inr ((att_own A (w := 21) (a := 28530) (OW_w (by decide) rfl)).mpr ⟨by omega, by omega⟩)
                  have nh : t.1 i = 2 := tokI_2 (by omega)
                  have A0_ := A
                  have T0 := hT
                  have L0 := hL
                  have F0 : FRS ((kd, ph, bg) :: st) g := ⟨f1, f2, f3, f4⟩
                  have d0 : g 386 41 = (st.length : Int) + 1 := by omega
                  have u0 : g 386 42 = (st.length : Int) := by omega
                  have o0 := h45
                  have A1 : ATT t P i g565 := ATT_fr A0_ fun k k1 k2 => rg565.s (by
                    have hc : k = 3 ∨ k = 4 ∨ k = 5 ∨ k = 6 ∨ k = 7 ∨ k = 8 := by omega
                    rcases hc with z | z | z | z | z | z <;> subst z <;> decide)
                  have T1 := (rg565.a (a := 387) (by decide)).trans T0
                  have L1 := (rg565.s (a := 386) (k := 2) (by decide)).trans L0
                  have F1 := FRS_eq (rg565.a (by decide)) (rg565.a (by decide)) (rg565.a (by decide)) F0
                  have d1 := (rg565.s (a := 386) (k := 41) (by decide)).trans d0
                  have u1 := (rg565.s (a := 386) (k := 42) (by decide)).trans u0
                  have o1 := (rg565.s (a := 386) (k := 45) (by decide)).trans o0
                  have A2 : ATT t P i g572 := ATT_fr A1 fun k k1 k2 => rg572.s (by
                    have hc : k = 3 ∨ k = 4 ∨ k = 5 ∨ k = 6 ∨ k = 7 ∨ k = 8 := by omega
                    rcases hc with z | z | z | z | z | z <;> subst z <;> decide)
                  have T2 := (rg572.a (a := 387) (by decide)).trans T1
                  have L2 := (rg572.s (a := 386) (k := 2) (by decide)).trans L1
                  have F2 := FRS_eq (rg572.a (by decide)) (rg572.a (by decide)) (rg572.a (by decide)) F1
                  have d2 := (rg572.s (a := 386) (k := 41) (by decide)).trans d1
                  have u2 := (rg572.s (a := 386) (k := 42) (by decide)).trans u1
                  have o2 := (rg572.s (a := 386) (k := 45) (by decide)).trans o1
                  rw [ev] at eg578
                  have A3 : ATT t P i g578 := by
                    rw [eg578]
                    exact ATT_fr A2 fun _ _ _ => zup_ne (Or.inl (by decide))
                  have T3 : g578 387 = T := by rw [eg578, zup_na (by decide), T2]
                  have L3 : g578 386 2 = (L : Int) := by rw [eg578, zup_ne (Or.inl (by decide)), L2]
                  have d3 : g578 386 41 = (st.length : Int) + 1 := by
                    rw [eg578, zup_ne (Or.inl (by decide))]
                    exact d2
                  have u3 : g578 386 42 = (st.length : Int) := by
                    rw [eg578, zup_ne (Or.inl (by decide))]
                    exact u2
                  have o3 : g578 386 45 = 1 := by
                    rw [eg578, zup_ne (Or.inl (by decide))]
                    exact o2
                  have F3 : FRS ((kd, 0, bg) :: st) g578 := by
                    obtain ⟨c1, c2, c3, c4⟩ := F2
                    rw [eg578]
                    exact ⟨by rw [zup_ne (Or.inl (by decide))]; exact c1, zup_eq, by rw [zup_ne (Or.inl (by decide))]; exact c3, FRS_up (Nat.le_refl _) c4⟩
                  rw [ev] at eg583
                  have A4 : ATT t P i g583 := by
                    rw [eg583]
                    exact ATT_fr A3 fun _ _ _ => zup_ne (Or.inl (by decide))
                  have T4 : g583 387 = T := by rw [eg583, zup_na (by decide), T3]
                  have L4 : g583 386 2 = (L : Int) := by rw [eg583, zup_ne (Or.inl (by decide)), L3]
                  have d4 : g583 386 41 = (st.length : Int) + 1 := by
                    rw [eg583, zup_ne (Or.inl (by decide))]
                    exact d3
                  have u4 : g583 386 42 = (st.length : Int) := by
                    rw [eg583, zup_ne (Or.inl (by decide))]
                    exact u3
                  have o4 : g583 386 45 = 1 := by
                    rw [eg583, zup_ne (Or.inl (by decide))]
                    exact o3
                  have F4 : FRS ((kd, 0, true) :: st) g583 := by
                    obtain ⟨c1, c2, c3, c4⟩ := F3
                    rw [eg583]
                    exact ⟨by rw [zup_ne (Or.inl (by decide))]; exact c1, by rw [zup_ne (Or.inl (by decide))]; exact c2, zup_eq, FRS_up (Nat.le_refl _) c4⟩
                  have ha : AH T L (g583 386 5).toNat g589 := by
                    have z : AH (g583 387) (g583 386 2).toNat (g583 386 5).toNat g589 := qg589
                    rw [T4, L4] at z
                    exact z
                  have R5 : RSq t P e (.inl (i + 1)) g589 := rs_next (F := fun k => .inl (k + 1)) tk A4 hi (by omega) (by omega) rfl ha
                  have F5 := FRS_eq (rg589.a (by decide)) (rg589.a (by decide)) (rg589.a (by decide)) F4
                  have d5 := (rg589.s (a := 386) (k := 41) (by decide)).trans d4
                  have u5 := (rg589.s (a := 386) (k := 42) (by decide)).trans u4
                  have o5 := (rg589.s (a := 386) (k := 45) (by decide)).trans o4
                  have R6 : RSq t P e (.inl (i + 1)) g595 := by
                    rw [eg595]
                    exact RSq_sl R5 (by decide)
                  have F6 := FRS_o (a := 386) (m := 45) (v := 0) (by decide) F5
                  rw [← eg595] at F6
                  have d6 : g595 386 41 = (st.length : Int) + 1 := by
                    rw [eg595, zup_ne (Or.inr (by decide))]
                    exact d5
                  have u6 : g595 386 42 = (st.length : Int) := by
                    rw [eg595, zup_ne (Or.inr (by decide))]
                    exact u5
                  have o6 : g595 386 45 = 0 := by
                    rw [eg595, zup_eq]
                  have hl3 : (((kd, 0, true) : zFm) :: st).length = st.length + 1 := rfl
                  exact Or.inl ⟨rfl, _, _, _, am_ao ht1 (by omega) (fun z => by
                    cases y : opB t i with
                    | false => rfl
                    | true => exact absurd ⟨by omega, y⟩ n1) (aoB_of wo), ⟨R6.1, R6.2, by rw [d6, hl3]; omega, by rw [u6, hl3]; omega, F6, by simp⟩, o6⟩
          · skip
            intro x596 ex596 o20 o21 x600 ex600 o23 o24
            refine ⟨fun h25z => ?_, fun h25z => ?_⟩
            · skip
              exfalso
              omega
            · skip
              intro g609 eg609 g614 eg614
              have ep : x514 = ph := by rw [ex514, ev, f2]
              have ht1 := fc (by omega)
              refine Or.inr ⟨rfl, Or.inl ⟨flt t i, am_ph0 ht1 n1 n2 (by omega), ?_, ?_, ?_⟩⟩
              · rw [eg614, zup_ne (Or.inr (by decide)), eg609, zup_eq]
                rfl
              · rw [eg614, zup_eq, ← att_flt A]
                omega
              · show (0 : Int) < 1
                decide
    · skip
      exact ⟨hv1, rfl, hv2, fa, fc, fd, n1, n2, fun z => by rw [fd (by omega)] at z; exact absurd z.1 (by decide)⟩
  · intro g v387_1 v387_2 v387_3 rg o1 o2 o3 o4 o5 o6 hI
    obtain ⟨hv1, hg, hv2, fa, fc, fd, n1, n2, n3⟩ := hI
    subst hg
    have ev : v387_1.toNat = st.length := by omega
    refine ⟨fun h7z => ?_, fun h7z => ?_⟩
    · skip
      intro x620 ex620 o9 o10
      refine ⟨fun h11z => ?_, fun h11z => ?_⟩
      · skip
        have ep : x620 = ph := by rw [ex620, ev, f2]
        exact ⟨hv1, hv2, n1, n2, n3, Or.inl ⟨rfl, fun z => absurd z.2 (by omega)⟩⟩
      · skip
        intro x622 ex622 o13 o14 x626 ex626 o16 o17
        refine ⟨fun h18z => ?_, fun h18z => ?_⟩
        · skip
          exfalso
          omega
        · skip
          intro g635 eg635 g640 eg640
          have ep : x620 = ph := by rw [ex620, ev, f2]
          refine ⟨hv1, hv2, n1, n2, n3, Or.inr ⟨fc (by omega), by omega, ?_, ?_⟩⟩
          · rw [eg640, zup_ne (Or.inr (by decide)), eg635, zup_eq]
          · rw [eg640, zup_eq, ← att_flt A]
            omega
    · skip
      exact ⟨hv1, hv2, n1, n2, n3, Or.inl ⟨rfl, fun z => by rw [fd (by omega)] at z; exact absurd z.1 (by decide)⟩⟩
  · intro g v409_1 v409_2 rg o1 o2 o3 o4 hI
    obtain ⟨hv1, hv2, n1, n2, n3, hg⟩ := hI
    have ev : v409_1.toNat = st.length := by omega
    refine ⟨fun h5z => ?_, fun h5z => ?_⟩
    · skip
      intro x642 ex642 o7 o8
      refine ⟨fun h9z => ?_, fun h9z => ?_⟩
      · skip
        rcases hg with ⟨hg, n4⟩ | ⟨b1, b2, b3, b4⟩
        rotate_left
        · exact Or.inr ⟨rfl, Or.inl ⟨flt t i, am_ph0 b1 n1 n2 b2, b3, b4, by show (0 : Int) < 1; decide⟩⟩
        exfalso
        subst hg
        omega
      · skip
        intro g652 rg652
        rcases hg with ⟨hg, n4⟩ | ⟨b1, b2, b3, b4⟩
        rotate_left
        · exfalso
          omega
        subst hg
        have A1 : ATT t P i g652 := ATT_fr A fun k k1 k2 => rg652.s (by
          have hc : k = 3 ∨ k = 4 ∨ k = 5 ∨ k = 6 ∨ k = 7 ∨ k = 8 := by omega
          rcases hc with z | z | z | z | z | z <;> subst z <;> decide)
        exact Or.inr ⟨rfl, Or.inr ⟨i, am_fin2 n1 n2 n3 n4 (by omega), hi, A1⟩⟩
    · skip
      refine ⟨fun h6z => ?_, fun h6z => ?_⟩
      · skip
        refine ⟨fun h7z => ?_, fun h7z => ?_⟩
        · skip
          intro x656 ex656 o9 o10
          refine ⟨fun h11z => ?_, fun h11z => ?_⟩
          · skip
            intro x661 ex661 o13 o14 x665 ex665 o16 o17
            refine ⟨fun h18z => ?_, fun h18z => ?_⟩
            · skip
              rcases hg with ⟨hg, n4⟩ | ⟨b1, b2, b3, b4⟩
              rotate_left
              · exact Or.inr ⟨rfl, Or.inl ⟨flt t i, am_ph0 b1 n1 n2 b2, b3, b4, by show (0 : Int) < 1; decide⟩⟩
              exfalso
              subst hg
              omega
            · skip
              intro g674 eg674 g679 eg679
              rcases hg with ⟨hg, n4⟩ | ⟨b1, b2, b3, b4⟩
              rotate_left
              · exfalso
                omega
              subst hg
              refine Or.inr ⟨rfl, Or.inl ⟨flt t i, am_k0 n1 n2 n3 n4 (by omega) (by omega) (c := 41) (by rw [if_neg (by omega)]) (att_nsg A (by decide) (fun y => by omega)), ?_, ?_, ?_⟩⟩
              · rw [eg679, zup_ne (Or.inr (by decide)), eg674, zup_eq]
                rfl
              · rw [eg679, zup_eq, ← att_flt A]
                omega
              · show (0 : Int) < 1
                decide
          · skip
            intro x681 ex681
            refine ⟨fun h13z => ?_, fun h13z => ?_⟩
            · skip
              intro x686 ex686 o15 o16 x690 ex690 o18 o19
              refine ⟨fun h20z => ?_, fun h20z => ?_⟩
              · skip
                rcases hg with ⟨hg, n4⟩ | ⟨b1, b2, b3, b4⟩
                rotate_left
                · exact Or.inr ⟨rfl, Or.inl ⟨flt t i, am_ph0 b1 n1 n2 b2, b3, b4, by show (0 : Int) < 1; decide⟩⟩
                exfalso
                subst hg
                omega
              · skip
                intro g699 eg699 g704 eg704
                rcases hg with ⟨hg, n4⟩ | ⟨b1, b2, b3, b4⟩
                rotate_left
                · exfalso
                  omega
                subst hg
                refine Or.inr ⟨rfl, Or.inl ⟨flt t i, am_k0 n1 n2 n3 n4 (by omega) (by omega) (c := 41) (by rw [if_neg (by omega)]) (att_nsg A (by decide) (fun y => by omega)), ?_, ?_, ?_⟩⟩
                · rw [eg704, zup_ne (Or.inr (by decide)), eg699, zup_eq]
                  rfl
                · rw [eg704, zup_eq, ← att_flt A]
                  omega
                · show (0 : Int) < 1
                  decide
            · skip
              intro x706 ex706 o15 o16
              refine ⟨fun h17z => ?_, fun h17z => ?_⟩
              · skip
                rcases hg with ⟨hg, n4⟩ | ⟨b1, b2, b3, b4⟩
                rotate_left
                · exact Or.inr ⟨rfl, Or.inl ⟨flt t i, am_ph0 b1 n1 n2 b2, b3, b4, by show (0 : Int) < 1; decide⟩⟩
                exfalso
                subst hg
                omega
              · skip
                intro g716 rg716 x718 ex718 o20 o21 x722 ex722 o23 g729 eg729 x730 ex730 o26 o27 x734 ex734 o29 g741 eg741
                refine ⟨fun h31z => ?_, fun h31z => ?_⟩
                · skip
                  refine ⟨fun g' => AH (g741 387) (g741 386 2).toNat (g741 386 5).toNat g', ?_, ?_⟩
                  · skip
                    rcases hg with ⟨hg, n4⟩ | ⟨b1, b2, b3, b4⟩
                    rotate_left
                    · exfalso
                      omega
                    subst hg
                    have y1 : x730 = (st.length : Int) := by
                      rw [ex730, eg729, zup_ne (Or.inr (by decide)), rg716.s (by decide)]
                      omega
                    obtain ⟨⟨k, p, b⟩, st9, hst⟩ : ∃ f st2, st = f :: st2 := by
                      cases st with
                      | nil =>
                        exfalso
                        have hz : ([] : List zFm).length = 0 := rfl
                        omega
                      | cons f st => exact ⟨f, st, rfl⟩
                    subst hst
                    have hq : ((k, p, b) :: st9 : List zFm).length = st9.length + 1 := rfl
                    have A0_ := A
                    have T0 := hT
                    have L0 := hL
                    have F0 : FRS ((kd, ph, bg) :: ((k, p, b) :: st9)) g := ⟨f1, f2, f3, f4⟩
                    have d0 : g 386 41 = (((k, p, b) :: st9).length : Int) + 1 := by omega
                    have u0 : g 386 42 = (((k, p, b) :: st9).length : Int) := by omega
                    have o0 := h45
                    have A1 : ATT t P i g716 := ATT_fr A0_ fun k k1 k2 => rg716.s (by
                      have hc : k = 3 ∨ k = 4 ∨ k = 5 ∨ k = 6 ∨ k = 7 ∨ k = 8 := by omega
                      rcases hc with z | z | z | z | z | z <;> subst z <;> decide)
                    have T1 := (rg716.a (a := 387) (by decide)).trans T0
                    have L1 := (rg716.s (a := 386) (k := 2) (by decide)).trans L0
                    have F1 := FRS_eq (rg716.a (by decide)) (rg716.a (by decide)) (rg716.a (by decide)) F0
                    have d1 := (rg716.s (a := 386) (k := 41) (by decide)).trans d0
                    have u1 := (rg716.s (a := 386) (k := 42) (by decide)).trans u0
                    have o1 := (rg716.s (a := 386) (k := 45) (by decide)).trans o0
                    have A2 : ATT t P i g729 := by
                      rw [eg729]
                      exact ATT_fr A1 fun k k1 k2 => zup_ne (Or.inr (by omega))
                    have T2 : g729 387 = T := by rw [eg729, zup_na (by decide), T1]
                    have L2 : g729 386 2 = (L : Int) := by rw [eg729, zup_ne (Or.inr (by decide)), L1]
                    have F2 : FRS ((kd, ph, bg) :: ((k, p, b) :: st9)) g729 := by
                      rw [eg729]
                      exact FRS_o (by decide) F1
                    have o2 : g729 386 45 = 1 := by
                      rw [eg729, zup_ne (Or.inr (by decide))]
                      exact o1
                    have d2 : g729 386 41 = x722 := by rw [eg729, zup_eq]
                    have u2 : g729 386 42 = (((k, p, b) :: st9).length : Int) := by
                      rw [eg729, zup_ne (Or.inr (by decide))]
                      exact u1
                    have A3 : ATT t P i g741 := by
                      rw [eg741]
                      exact ATT_fr A2 fun k k1 k2 => zup_ne (Or.inr (by omega))
                    have T3 : g741 387 = T := by rw [eg741, zup_na (by decide), T2]
                    have L3 : g741 386 2 = (L : Int) := by rw [eg741, zup_ne (Or.inr (by decide)), L2]
                    have F3 : FRS ((kd, ph, bg) :: ((k, p, b) :: st9)) g741 := by
                      rw [eg741]
                      exact FRS_o (by decide) F2
                    have o3 : g741 386 45 = 1 := by
                      rw [eg741, zup_ne (Or.inr (by decide))]
                      exact o2
                    have d3 : g741 386 41 = x722 := by
                      rw [eg741, zup_ne (Or.inr (by decide))]
                      exact d2
                    have u3 : g741 386 42 = x734 := by rw [eg741, zup_eq]
                    have aa8 := A3.2.1
                    have aa9 := A3.2.2.2.1
                    exact w_2310 (by omega) (by omega) (by omega)
                  · skip
                    intro g748 rg748 qg748
                    rcases hg with ⟨hg, n4⟩ | ⟨b1, b2, b3, b4⟩
                    rotate_left
                    · exfalso
                      omega
                    subst hg
                    have y1 : x730 = (st.length : Int) := by
                      rw [ex730, eg729, zup_ne (Or.inr (by decide)), rg716.s (by decide)]
                      omega
                    obtain ⟨⟨k, p, b⟩, st9, hst⟩ : ∃ f st2, st = f :: st2 := by
                      cases st with
                      | nil =>
                        exfalso
                        have hz : ([] : List zFm).length = 0 := rfl
                        omega
                      | cons f st => exact ⟨f, st, rfl⟩
                    subst hst
                    have hq : ((k, p, b) :: st9 : List zFm).length = st9.length + 1 := rfl
                    have sg : sgB t 41 i = true := (att_sg A (by decide)).mpr ⟨by omega, by omega⟩
                    have k5 := (sgB_iff.mp sg).1
                    have A0_ := A
                    have T0 := hT
                    have L0 := hL
                    have F0 : FRS ((kd, ph, bg) :: ((k, p, b) :: st9)) g := ⟨f1, f2, f3, f4⟩
                    have d0 : g 386 41 = (((k, p, b) :: st9).length : Int) + 1 := by omega
                    have u0 : g 386 42 = (((k, p, b) :: st9).length : Int) := by omega
                    have o0 := h45
                    have A1 : ATT t P i g716 := ATT_fr A0_ fun k k1 k2 => rg716.s (by
                      have hc : k = 3 ∨ k = 4 ∨ k = 5 ∨ k = 6 ∨ k = 7 ∨ k = 8 := by omega
                      rcases hc with z | z | z | z | z | z <;> subst z <;> decide)
                    have T1 := (rg716.a (a := 387) (by decide)).trans T0
                    have L1 := (rg716.s (a := 386) (k := 2) (by decide)).trans L0
                    have F1 := FRS_eq (rg716.a (by decide)) (rg716.a (by decide)) (rg716.a (by decide)) F0
                    have d1 := (rg716.s (a := 386) (k := 41) (by decide)).trans d0
                    have u1 := (rg716.s (a := 386) (k := 42) (by decide)).trans u0
                    have o1 := (rg716.s (a := 386) (k := 45) (by decide)).trans o0
                    have A2 : ATT t P i g729 := by
                      rw [eg729]
                      exact ATT_fr A1 fun k k1 k2 => zup_ne (Or.inr (by omega))
                    have T2 : g729 387 = T := by rw [eg729, zup_na (by decide), T1]
                    have L2 : g729 386 2 = (L : Int) := by rw [eg729, zup_ne (Or.inr (by decide)), L1]
                    have F2 : FRS ((kd, ph, bg) :: ((k, p, b) :: st9)) g729 := by
                      rw [eg729]
                      exact FRS_o (by decide) F1
                    have o2 : g729 386 45 = 1 := by
                      rw [eg729, zup_ne (Or.inr (by decide))]
                      exact o1
                    have d2 : g729 386 41 = x722 := by rw [eg729, zup_eq]
                    have u2 : g729 386 42 = (((k, p, b) :: st9).length : Int) := by
                      rw [eg729, zup_ne (Or.inr (by decide))]
                      exact u1
                    have A3 : ATT t P i g741 := by
                      rw [eg741]
                      exact ATT_fr A2 fun k k1 k2 => zup_ne (Or.inr (by omega))
                    have T3 : g741 387 = T := by rw [eg741, zup_na (by decide), T2]
                    have L3 : g741 386 2 = (L : Int) := by rw [eg741, zup_ne (Or.inr (by decide)), L2]
                    have F3 : FRS ((kd, ph, bg) :: ((k, p, b) :: st9)) g741 := by
                      rw [eg741]
                      exact FRS_o (by decide) F2
                    have o3 : g741 386 45 = 1 := by
                      rw [eg741, zup_ne (Or.inr (by decide))]
                      exact o2
                    have d3 : g741 386 41 = x722 := by
                      rw [eg741, zup_ne (Or.inr (by decide))]
                      exact d2
                    have u3 : g741 386 42 = x734 := by rw [eg741, zup_eq]
                    have ha : AH T L (g741 386 5).toNat g748 := by
                      have z : AH (g741 387) (g741 386 2).toNat (g741 386 5).toNat g748 := qg748
                      rw [T3, L3] at z
                      exact z
                    have R4 : RSq t P e (.inl (i + 1)) g748 := rs_next (F := fun k => .inl (k + 1)) tk A3 hi (by omega) (by omega) rfl ha
                    have F4 := FRS_eq (rg748.a (by decide)) (rg748.a (by decide)) (rg748.a (by decide)) F3
                    have d4 := (rg748.s (a := 386) (k := 41) (by decide)).trans d3
                    have u4 := (rg748.s (a := 386) (k := 42) (by decide)).trans u3
                    have o4 := (rg748.s (a := 386) (k := 45) (by decide)).trans o3
                    have am := am_k1 (st := st9) (k := k) (p := p) (b := b) (bg := bg) n1 n2 n3 n4 (by omega) (by omega) (c := 41) (by rw [if_neg (by omega)]) sg
                    rw [if_neg (show ¬ kd = 5 by omega)] at am
                    have hl3 : (((k, p, b) : zFm) :: st9).length = st9.length + 1 := rfl
                    exact Or.inl ⟨rfl, _, _, _, am, ⟨R4.1, R4.2, by rw [d4, hl3]; omega, by rw [u4, hl3]; omega, F4.2.2.2, by simp⟩, o4⟩
                · skip
                  intro x753 ex753 o33 o34
                  intro g759 rg759
                  refine ⟨fun g' => AH (g759 387) (g759 386 2).toNat (g759 386 5).toNat g', ?_, ?_⟩
                  · skip
                    rcases hg with ⟨hg, n4⟩ | ⟨b1, b2, b3, b4⟩
                    rotate_left
                    · exfalso
                      omega
                    subst hg
                    have y1 : x730 = (st.length : Int) := by
                      rw [ex730, eg729, zup_ne (Or.inr (by decide)), rg716.s (by decide)]
                      omega
                    obtain ⟨⟨k, p, b⟩, st9, hst⟩ : ∃ f st2, st = f :: st2 := by
                      cases st with
                      | nil =>
                        exfalso
                        have hz : ([] : List zFm).length = 0 := rfl
                        omega
                      | cons f st => exact ⟨f, st, rfl⟩
                    subst hst
                    have hq : ((k, p, b) :: st9 : List zFm).length = st9.length + 1 := rfl
                    have A0_ := A
                    have T0 := hT
                    have L0 := hL
                    have F0 : FRS ((kd, ph, bg) :: ((k, p, b) :: st9)) g := ⟨f1, f2, f3, f4⟩
                    have d0 : g 386 41 = (((k, p, b) :: st9).length : Int) + 1 := by omega
                    have u0 : g 386 42 = (((k, p, b) :: st9).length : Int) := by omega
                    have o0 := h45
                    have A1 : ATT t P i g716 := ATT_fr A0_ fun k k1 k2 => rg716.s (by
                      have hc : k = 3 ∨ k = 4 ∨ k = 5 ∨ k = 6 ∨ k = 7 ∨ k = 8 := by omega
                      rcases hc with z | z | z | z | z | z <;> subst z <;> decide)
                    have T1 := (rg716.a (a := 387) (by decide)).trans T0
                    have L1 := (rg716.s (a := 386) (k := 2) (by decide)).trans L0
                    have F1 := FRS_eq (rg716.a (by decide)) (rg716.a (by decide)) (rg716.a (by decide)) F0
                    have d1 := (rg716.s (a := 386) (k := 41) (by decide)).trans d0
                    have u1 := (rg716.s (a := 386) (k := 42) (by decide)).trans u0
                    have o1 := (rg716.s (a := 386) (k := 45) (by decide)).trans o0
                    have A2 : ATT t P i g729 := by
                      rw [eg729]
                      exact ATT_fr A1 fun k k1 k2 => zup_ne (Or.inr (by omega))
                    have T2 : g729 387 = T := by rw [eg729, zup_na (by decide), T1]
                    have L2 : g729 386 2 = (L : Int) := by rw [eg729, zup_ne (Or.inr (by decide)), L1]
                    have F2 : FRS ((kd, ph, bg) :: ((k, p, b) :: st9)) g729 := by
                      rw [eg729]
                      exact FRS_o (by decide) F1
                    have o2 : g729 386 45 = 1 := by
                      rw [eg729, zup_ne (Or.inr (by decide))]
                      exact o1
                    have d2 : g729 386 41 = x722 := by rw [eg729, zup_eq]
                    have u2 : g729 386 42 = (((k, p, b) :: st9).length : Int) := by
                      rw [eg729, zup_ne (Or.inr (by decide))]
                      exact u1
                    have A3 : ATT t P i g741 := by
                      rw [eg741]
                      exact ATT_fr A2 fun k k1 k2 => zup_ne (Or.inr (by omega))
                    have T3 : g741 387 = T := by rw [eg741, zup_na (by decide), T2]
                    have L3 : g741 386 2 = (L : Int) := by rw [eg741, zup_ne (Or.inr (by decide)), L2]
                    have F3 : FRS ((kd, ph, bg) :: ((k, p, b) :: st9)) g741 := by
                      rw [eg741]
                      exact FRS_o (by decide) F2
                    have o3 : g741 386 45 = 1 := by
                      rw [eg741, zup_ne (Or.inr (by decide))]
                      exact o2
                    have d3 : g741 386 41 = x722 := by
                      rw [eg741, zup_ne (Or.inr (by decide))]
                      exact d2
                    have u3 : g741 386 42 = x734 := by rw [eg741, zup_eq]
                    have A4 : ATT t P i g759 := ATT_fr A3 fun k k1 k2 => rg759.s (by
                      have hc : k = 3 ∨ k = 4 ∨ k = 5 ∨ k = 6 ∨ k = 7 ∨ k = 8 := by omega
                      rcases hc with z | z | z | z | z | z <;> subst z <;> decide)
                    have T4 := (rg759.a (a := 387) (by decide)).trans T3
                    have L4 := (rg759.s (a := 386) (k := 2) (by decide)).trans L3
                    have F4 := FRS_eq (rg759.a (by decide)) (rg759.a (by decide)) (rg759.a (by decide)) F3
                    have d4 := (rg759.s (a := 386) (k := 41) (by decide)).trans d3
                    have u4 := (rg759.s (a := 386) (k := 42) (by decide)).trans u3
                    have o4 := (rg759.s (a := 386) (k := 45) (by decide)).trans o3
                    have aa8 := A4.2.1
                    have aa9 := A4.2.2.2.1
                    exact w_2310 (by omega) (by omega) (by omega)
                  · skip
                    intro g766 rg766 qg766
                    rcases hg with ⟨hg, n4⟩ | ⟨b1, b2, b3, b4⟩
                    rotate_left
                    · exfalso
                      omega
                    subst hg
                    have y1 : x730 = (st.length : Int) := by
                      rw [ex730, eg729, zup_ne (Or.inr (by decide)), rg716.s (by decide)]
                      omega
                    obtain ⟨⟨k, p, b⟩, st9, hst⟩ : ∃ f st2, st = f :: st2 := by
                      cases st with
                      | nil =>
                        exfalso
                        have hz : ([] : List zFm).length = 0 := rfl
                        omega
                      | cons f st => exact ⟨f, st, rfl⟩
                    subst hst
                    have hq : ((k, p, b) :: st9 : List zFm).length = st9.length + 1 := rfl
                    have sg : sgB t 41 i = true := (att_sg A (by decide)).mpr ⟨by omega, by omega⟩
                    have k5 := (sgB_iff.mp sg).1
                    have A0_ := A
                    have T0 := hT
                    have L0 := hL
                    have F0 : FRS ((kd, ph, bg) :: ((k, p, b) :: st9)) g := ⟨f1, f2, f3, f4⟩
                    have d0 : g 386 41 = (((k, p, b) :: st9).length : Int) + 1 := by omega
                    have u0 : g 386 42 = (((k, p, b) :: st9).length : Int) := by omega
                    have o0 := h45
                    have A1 : ATT t P i g716 := ATT_fr A0_ fun k k1 k2 => rg716.s (by
                      have hc : k = 3 ∨ k = 4 ∨ k = 5 ∨ k = 6 ∨ k = 7 ∨ k = 8 := by omega
                      rcases hc with z | z | z | z | z | z <;> subst z <;> decide)
                    have T1 := (rg716.a (a := 387) (by decide)).trans T0
                    have L1 := (rg716.s (a := 386) (k := 2) (by decide)).trans L0
                    have F1 := FRS_eq (rg716.a (by decide)) (rg716.a (by decide)) (rg716.a (by decide)) F0
                    have d1 := (rg716.s (a := 386) (k := 41) (by decide)).trans d0
                    have u1 := (rg716.s (a := 386) (k := 42) (by decide)).trans u0
                    have o1 := (rg716.s (a := 386) (k := 45) (by decide)).trans o0
                    have A2 : ATT t P i g729 := by
                      rw [eg729]
                      exact ATT_fr A1 fun k k1 k2 => zup_ne (Or.inr (by omega))
                    have T2 : g729 387 = T := by rw [eg729, zup_na (by decide), T1]
                    have L2 : g729 386 2 = (L : Int) := by rw [eg729, zup_ne (Or.inr (by decide)), L1]
                    have F2 : FRS ((kd, ph, bg) :: ((k, p, b) :: st9)) g729 := by
                      rw [eg729]
                      exact FRS_o (by decide) F1
                    have o2 : g729 386 45 = 1 := by
                      rw [eg729, zup_ne (Or.inr (by decide))]
                      exact o1
                    have d2 : g729 386 41 = x722 := by rw [eg729, zup_eq]
                    have u2 : g729 386 42 = (((k, p, b) :: st9).length : Int) := by
                      rw [eg729, zup_ne (Or.inr (by decide))]
                      exact u1
                    have A3 : ATT t P i g741 := by
                      rw [eg741]
                      exact ATT_fr A2 fun k k1 k2 => zup_ne (Or.inr (by omega))
                    have T3 : g741 387 = T := by rw [eg741, zup_na (by decide), T2]
                    have L3 : g741 386 2 = (L : Int) := by rw [eg741, zup_ne (Or.inr (by decide)), L2]
                    have F3 : FRS ((kd, ph, bg) :: ((k, p, b) :: st9)) g741 := by
                      rw [eg741]
                      exact FRS_o (by decide) F2
                    have o3 : g741 386 45 = 1 := by
                      rw [eg741, zup_ne (Or.inr (by decide))]
                      exact o2
                    have d3 : g741 386 41 = x722 := by
                      rw [eg741, zup_ne (Or.inr (by decide))]
                      exact d2
                    have u3 : g741 386 42 = x734 := by rw [eg741, zup_eq]
                    have A4 : ATT t P i g759 := ATT_fr A3 fun k k1 k2 => rg759.s (by
                      have hc : k = 3 ∨ k = 4 ∨ k = 5 ∨ k = 6 ∨ k = 7 ∨ k = 8 := by omega
                      rcases hc with z | z | z | z | z | z <;> subst z <;> decide)
                    have T4 := (rg759.a (a := 387) (by decide)).trans T3
                    have L4 := (rg759.s (a := 386) (k := 2) (by decide)).trans L3
                    have F4 := FRS_eq (rg759.a (by decide)) (rg759.a (by decide)) (rg759.a (by decide)) F3
                    have d4 := (rg759.s (a := 386) (k := 41) (by decide)).trans d3
                    have u4 := (rg759.s (a := 386) (k := 42) (by decide)).trans u3
                    have o4 := (rg759.s (a := 386) (k := 45) (by decide)).trans o3
                    have ha : AH T L (g759 386 5).toNat g766 := by
                      have z : AH (g759 387) (g759 386 2).toNat (g759 386 5).toNat g766 := qg766
                      rw [T4, L4] at z
                      exact z
                    have R5 : RSq t P e (.inl (i + 1)) g766 := rs_next (F := fun k => .inl (k + 1)) tk A4 hi (by omega) (by omega) rfl ha
                    have F5 := FRS_eq (rg766.a (by decide)) (rg766.a (by decide)) (rg766.a (by decide)) F4
                    have d5 := (rg766.s (a := 386) (k := 41) (by decide)).trans d4
                    have u5 := (rg766.s (a := 386) (k := 42) (by decide)).trans u4
                    have o5 := (rg766.s (a := 386) (k := 45) (by decide)).trans o4
                    have am := am_k1 (st := st9) (k := k) (p := p) (b := b) (bg := bg) n1 n2 n3 n4 (by omega) (by omega) (c := 41) (by rw [if_neg (by omega)]) sg
                    rw [if_neg (show ¬ kd = 5 by omega)] at am
                    have hl3 : (((k, p, b) : zFm) :: st9).length = st9.length + 1 := rfl
                    exact Or.inl ⟨rfl, _, _, _, am, ⟨R5.1, R5.2, by rw [d5, hl3]; omega, by rw [u5, hl3]; omega, F5.2.2.2, by simp⟩, o5⟩
        · skip
          intro x768 ex768 o9 o10
          refine ⟨fun h11z => ?_, fun h11z => ?_⟩
          · skip
            intro x773 ex773 o13 o14 x777 ex777 o16 o17
            refine ⟨fun h18z => ?_, fun h18z => ?_⟩
            · skip
              rcases hg with ⟨hg, n4⟩ | ⟨b1, b2, b3, b4⟩
              rotate_left
              · exact Or.inr ⟨rfl, Or.inl ⟨flt t i, am_ph0 b1 n1 n2 b2, b3, b4, by show (0 : Int) < 1; decide⟩⟩
              exfalso
              subst hg
              omega
            · skip
              intro g786 eg786 g791 eg791
              rcases hg with ⟨hg, n4⟩ | ⟨b1, b2, b3, b4⟩
              rotate_left
              · exfalso
                omega
              subst hg
              refine Or.inr ⟨rfl, Or.inl ⟨flt t i, am_k0 n1 n2 n3 n4 (by omega) (by omega) (c := 93) (by rw [if_pos (by omega)]) (att_nsg A (by decide) (fun y => by omega)), ?_, ?_, ?_⟩⟩
              · rw [eg791, zup_ne (Or.inr (by decide)), eg786, zup_eq]
                rfl
              · rw [eg791, zup_eq, ← att_flt A]
                omega
              · show (0 : Int) < 1
                decide
          · skip
            intro x793 ex793
            refine ⟨fun h13z => ?_, fun h13z => ?_⟩
            · skip
              intro x798 ex798 o15 o16 x802 ex802 o18 o19
              refine ⟨fun h20z => ?_, fun h20z => ?_⟩
              · skip
                rcases hg with ⟨hg, n4⟩ | ⟨b1, b2, b3, b4⟩
                rotate_left
                · exact Or.inr ⟨rfl, Or.inl ⟨flt t i, am_ph0 b1 n1 n2 b2, b3, b4, by show (0 : Int) < 1; decide⟩⟩
                exfalso
                subst hg
                omega
              · skip
                intro g811 eg811 g816 eg816
                rcases hg with ⟨hg, n4⟩ | ⟨b1, b2, b3, b4⟩
                rotate_left
                · exfalso
                  omega
                subst hg
                refine Or.inr ⟨rfl, Or.inl ⟨flt t i, am_k0 n1 n2 n3 n4 (by omega) (by omega) (c := 93) (by rw [if_pos (by omega)]) (att_nsg A (by decide) (fun y => by omega)), ?_, ?_, ?_⟩⟩
                · rw [eg816, zup_ne (Or.inr (by decide)), eg811, zup_eq]
                  rfl
                · rw [eg816, zup_eq, ← att_flt A]
                  omega
                · show (0 : Int) < 1
                  decide
            · skip
              intro x818 ex818 o15 o16
              refine ⟨fun h17z => ?_, fun h17z => ?_⟩
              · skip
                rcases hg with ⟨hg, n4⟩ | ⟨b1, b2, b3, b4⟩
                rotate_left
                · exact Or.inr ⟨rfl, Or.inl ⟨flt t i, am_ph0 b1 n1 n2 b2, b3, b4, by show (0 : Int) < 1; decide⟩⟩
                exfalso
                subst hg
                omega
              · skip
                intro g828 rg828 x830 ex830 o20 o21 x834 ex834 o23 g841 eg841 x842 ex842 o26 o27 x846 ex846 o29 g853 eg853 x855 ex855 o32 g862 eg862
                refine ⟨fun g' => AH (g862 387) (g862 386 2).toNat (g862 386 5).toNat g', ?_, ?_⟩
                · skip
                  rcases hg with ⟨hg, n4⟩ | ⟨b1, b2, b3, b4⟩
                  rotate_left
                  · exfalso
                    omega
                  subst hg
                  have y1 : x842 = (st.length : Int) := by
                    rw [ex842, eg841, zup_ne (Or.inr (by decide)), rg828.s (by decide)]
                    omega
                  obtain ⟨⟨k, p, b⟩, st9, hst⟩ : ∃ f st2, st = f :: st2 := by
                    cases st with
                    | nil =>
                      exfalso
                      have hz : ([] : List zFm).length = 0 := rfl
                      omega
                    | cons f st => exact ⟨f, st, rfl⟩
                  subst hst
                  have hq : ((k, p, b) :: st9 : List zFm).length = st9.length + 1 := rfl
                  have A0_ := A
                  have T0 := hT
                  have L0 := hL
                  have F0 : FRS ((kd, ph, bg) :: ((k, p, b) :: st9)) g := ⟨f1, f2, f3, f4⟩
                  have d0 : g 386 41 = (((k, p, b) :: st9).length : Int) + 1 := by omega
                  have u0 : g 386 42 = (((k, p, b) :: st9).length : Int) := by omega
                  have o0 := h45
                  have A1 : ATT t P i g828 := ATT_fr A0_ fun k k1 k2 => rg828.s (by
                    have hc : k = 3 ∨ k = 4 ∨ k = 5 ∨ k = 6 ∨ k = 7 ∨ k = 8 := by omega
                    rcases hc with z | z | z | z | z | z <;> subst z <;> decide)
                  have T1 := (rg828.a (a := 387) (by decide)).trans T0
                  have L1 := (rg828.s (a := 386) (k := 2) (by decide)).trans L0
                  have F1 := FRS_eq (rg828.a (by decide)) (rg828.a (by decide)) (rg828.a (by decide)) F0
                  have d1 := (rg828.s (a := 386) (k := 41) (by decide)).trans d0
                  have u1 := (rg828.s (a := 386) (k := 42) (by decide)).trans u0
                  have o1 := (rg828.s (a := 386) (k := 45) (by decide)).trans o0
                  have A2 : ATT t P i g841 := by
                    rw [eg841]
                    exact ATT_fr A1 fun k k1 k2 => zup_ne (Or.inr (by omega))
                  have T2 : g841 387 = T := by rw [eg841, zup_na (by decide), T1]
                  have L2 : g841 386 2 = (L : Int) := by rw [eg841, zup_ne (Or.inr (by decide)), L1]
                  have F2 : FRS ((kd, ph, bg) :: ((k, p, b) :: st9)) g841 := by
                    rw [eg841]
                    exact FRS_o (by decide) F1
                  have o2 : g841 386 45 = 1 := by
                    rw [eg841, zup_ne (Or.inr (by decide))]
                    exact o1
                  have d2 : g841 386 41 = x834 := by rw [eg841, zup_eq]
                  have u2 : g841 386 42 = (((k, p, b) :: st9).length : Int) := by
                    rw [eg841, zup_ne (Or.inr (by decide))]
                    exact u1
                  have A3 : ATT t P i g853 := by
                    rw [eg853]
                    exact ATT_fr A2 fun k k1 k2 => zup_ne (Or.inr (by omega))
                  have T3 : g853 387 = T := by rw [eg853, zup_na (by decide), T2]
                  have L3 : g853 386 2 = (L : Int) := by rw [eg853, zup_ne (Or.inr (by decide)), L2]
                  have F3 : FRS ((kd, ph, bg) :: ((k, p, b) :: st9)) g853 := by
                    rw [eg853]
                    exact FRS_o (by decide) F2
                  have o3 : g853 386 45 = 1 := by
                    rw [eg853, zup_ne (Or.inr (by decide))]
                    exact o2
                  have d3 : g853 386 41 = x834 := by
                    rw [eg853, zup_ne (Or.inr (by decide))]
                    exact d2
                  have u3 : g853 386 42 = x846 := by rw [eg853, zup_eq]
                  have ex : x855.toNat = st9.length := by omega
                  rw [ex] at eg862
                  have A4 : ATT t P i g862 := by
                    rw [eg862]
                    exact ATT_fr A3 fun _ _ _ => zup_ne (Or.inl (by decide))
                  have T4 : g862 387 = T := by rw [eg862, zup_na (by decide), T3]
                  have L4 : g862 386 2 = (L : Int) := by rw [eg862, zup_ne (Or.inl (by decide)), L3]
                  have d4 : g862 386 41 = x834 := by
                    rw [eg862, zup_ne (Or.inl (by decide))]
                    exact d3
                  have u4 : g862 386 42 = x846 := by
                    rw [eg862, zup_ne (Or.inl (by decide))]
                    exact u3
                  have o4 : g862 386 45 = 1 := by
                    rw [eg862, zup_ne (Or.inl (by decide))]
                    exact o3
                  have F4 : FRS ((k, 2, b) :: st9) g862 := by
                    obtain ⟨-, -, -, c1, c2, c3, c4⟩ := F3
                    rw [eg862]
                    exact ⟨by rw [zup_ne (Or.inl (by decide))]; exact c1, zup_eq, by rw [zup_ne (Or.inl (by decide))]; exact c3, FRS_up (Nat.le_refl _) c4⟩
                  have aa8 := A4.2.1
                  have aa9 := A4.2.2.2.1
                  exact w_2310 (by omega) (by omega) (by omega)
                · skip
                  intro g868 rg868 qg868
                  rcases hg with ⟨hg, n4⟩ | ⟨b1, b2, b3, b4⟩
                  rotate_left
                  · exfalso
                    omega
                  subst hg
                  have y1 : x842 = (st.length : Int) := by
                    rw [ex842, eg841, zup_ne (Or.inr (by decide)), rg828.s (by decide)]
                    omega
                  obtain ⟨⟨k, p, b⟩, st9, hst⟩ : ∃ f st2, st = f :: st2 := by
                    cases st with
                    | nil =>
                      exfalso
                      have hz : ([] : List zFm).length = 0 := rfl
                      omega
                    | cons f st => exact ⟨f, st, rfl⟩
                  subst hst
                  have hq : ((k, p, b) :: st9 : List zFm).length = st9.length + 1 := rfl
                  have sg : sgB t 93 i = true := (att_sg A (by decide)).mpr ⟨by omega, by omega⟩
                  have k5 := (sgB_iff.mp sg).1
                  have A0_ := A
                  have T0 := hT
                  have L0 := hL
                  have F0 : FRS ((kd, ph, bg) :: ((k, p, b) :: st9)) g := ⟨f1, f2, f3, f4⟩
                  have d0 : g 386 41 = (((k, p, b) :: st9).length : Int) + 1 := by omega
                  have u0 : g 386 42 = (((k, p, b) :: st9).length : Int) := by omega
                  have o0 := h45
                  have A1 : ATT t P i g828 := ATT_fr A0_ fun k k1 k2 => rg828.s (by
                    have hc : k = 3 ∨ k = 4 ∨ k = 5 ∨ k = 6 ∨ k = 7 ∨ k = 8 := by omega
                    rcases hc with z | z | z | z | z | z <;> subst z <;> decide)
                  have T1 := (rg828.a (a := 387) (by decide)).trans T0
                  have L1 := (rg828.s (a := 386) (k := 2) (by decide)).trans L0
                  have F1 := FRS_eq (rg828.a (by decide)) (rg828.a (by decide)) (rg828.a (by decide)) F0
                  have d1 := (rg828.s (a := 386) (k := 41) (by decide)).trans d0
                  have u1 := (rg828.s (a := 386) (k := 42) (by decide)).trans u0
                  have o1 := (rg828.s (a := 386) (k := 45) (by decide)).trans o0
                  have A2 : ATT t P i g841 := by
                    rw [eg841]
                    exact ATT_fr A1 fun k k1 k2 => zup_ne (Or.inr (by omega))
                  have T2 : g841 387 = T := by rw [eg841, zup_na (by decide), T1]
                  have L2 : g841 386 2 = (L : Int) := by rw [eg841, zup_ne (Or.inr (by decide)), L1]
                  have F2 : FRS ((kd, ph, bg) :: ((k, p, b) :: st9)) g841 := by
                    rw [eg841]
                    exact FRS_o (by decide) F1
                  have o2 : g841 386 45 = 1 := by
                    rw [eg841, zup_ne (Or.inr (by decide))]
                    exact o1
                  have d2 : g841 386 41 = x834 := by rw [eg841, zup_eq]
                  have u2 : g841 386 42 = (((k, p, b) :: st9).length : Int) := by
                    rw [eg841, zup_ne (Or.inr (by decide))]
                    exact u1
                  have A3 : ATT t P i g853 := by
                    rw [eg853]
                    exact ATT_fr A2 fun k k1 k2 => zup_ne (Or.inr (by omega))
                  have T3 : g853 387 = T := by rw [eg853, zup_na (by decide), T2]
                  have L3 : g853 386 2 = (L : Int) := by rw [eg853, zup_ne (Or.inr (by decide)), L2]
                  have F3 : FRS ((kd, ph, bg) :: ((k, p, b) :: st9)) g853 := by
                    rw [eg853]
                    exact FRS_o (by decide) F2
                  have o3 : g853 386 45 = 1 := by
                    rw [eg853, zup_ne (Or.inr (by decide))]
                    exact o2
                  have d3 : g853 386 41 = x834 := by
                    rw [eg853, zup_ne (Or.inr (by decide))]
                    exact d2
                  have u3 : g853 386 42 = x846 := by rw [eg853, zup_eq]
                  have ex : x855.toNat = st9.length := by omega
                  rw [ex] at eg862
                  have A4 : ATT t P i g862 := by
                    rw [eg862]
                    exact ATT_fr A3 fun _ _ _ => zup_ne (Or.inl (by decide))
                  have T4 : g862 387 = T := by rw [eg862, zup_na (by decide), T3]
                  have L4 : g862 386 2 = (L : Int) := by rw [eg862, zup_ne (Or.inl (by decide)), L3]
                  have d4 : g862 386 41 = x834 := by
                    rw [eg862, zup_ne (Or.inl (by decide))]
                    exact d3
                  have u4 : g862 386 42 = x846 := by
                    rw [eg862, zup_ne (Or.inl (by decide))]
                    exact u3
                  have o4 : g862 386 45 = 1 := by
                    rw [eg862, zup_ne (Or.inl (by decide))]
                    exact o3
                  have F4 : FRS ((k, 2, b) :: st9) g862 := by
                    obtain ⟨-, -, -, c1, c2, c3, c4⟩ := F3
                    rw [eg862]
                    exact ⟨by rw [zup_ne (Or.inl (by decide))]; exact c1, zup_eq, by rw [zup_ne (Or.inl (by decide))]; exact c3, FRS_up (Nat.le_refl _) c4⟩
                  have ha : AH T L (g862 386 5).toNat g868 := by
                    have z : AH (g862 387) (g862 386 2).toNat (g862 386 5).toNat g868 := qg868
                    rw [T4, L4] at z
                    exact z
                  have R5 : RSq t P e (.inl (i + 1)) g868 := rs_next (F := fun k => .inl (k + 1)) tk A4 hi (by omega) (by omega) rfl ha
                  have F5 := FRS_eq (rg868.a (by decide)) (rg868.a (by decide)) (rg868.a (by decide)) F4
                  have d5 := (rg868.s (a := 386) (k := 41) (by decide)).trans d4
                  have u5 := (rg868.s (a := 386) (k := 42) (by decide)).trans u4
                  have o5 := (rg868.s (a := 386) (k := 45) (by decide)).trans o4
                  have am := am_k1 (st := st9) (k := k) (p := p) (b := b) (bg := bg) n1 n2 n3 n4 (by omega) (by omega) (c := 93) (by rw [if_pos (by omega)]) sg
                  rw [if_pos (show kd = 5 by omega)] at am
                  have hl3 : (((k, 2, b) : zFm) :: st9).length = st9.length + 1 := rfl
                  exact Or.inl ⟨rfl, _, _, _, am, ⟨R5.1, R5.2, by rw [d5, hl3]; omega, by rw [u5, hl3]; omega, F5, by simp⟩, o5⟩
      · skip
        intro x870 ex870 o8 o9
        refine ⟨fun h10z => ?_, fun h10z => ?_⟩
        · skip
          intro x875 ex875 o12 o13 x879 ex879 o15 o16
          refine ⟨fun h17z => ?_, fun h17z => ?_⟩
          · skip
            rcases hg with ⟨hg, n4⟩ | ⟨b1, b2, b3, b4⟩
            rotate_left
            · exact Or.inr ⟨rfl, Or.inl ⟨flt t i, am_ph0 b1 n1 n2 b2, b3, b4, by show (0 : Int) < 1; decide⟩⟩
            exfalso
            subst hg
            omega
          · skip
            intro g888 eg888 g893 eg893
            rcases hg with ⟨hg, n4⟩ | ⟨b1, b2, b3, b4⟩
            rotate_left
            · exfalso
              omega
            subst hg
            refine Or.inr ⟨rfl, Or.inl ⟨flt t i, am_c0 n1 n2 n3 n4 (by omega) (att_nsg A (by decide) (fun y => by omega)), ?_, ?_, ?_⟩⟩
            · rw [eg893, zup_ne (Or.inr (by decide)), eg888, zup_eq]
              rfl
            · rw [eg893, zup_eq, ← att_flt A]
              omega
            · show (0 : Int) < 1
              decide
        · skip
          intro x895 ex895
          refine ⟨fun h12z => ?_, fun h12z => ?_⟩
          · skip
            intro x900 ex900 o14 o15 x904 ex904 o17 o18
            refine ⟨fun h19z => ?_, fun h19z => ?_⟩
            · skip
              rcases hg with ⟨hg, n4⟩ | ⟨b1, b2, b3, b4⟩
              rotate_left
              · exact Or.inr ⟨rfl, Or.inl ⟨flt t i, am_ph0 b1 n1 n2 b2, b3, b4, by show (0 : Int) < 1; decide⟩⟩
              exfalso
              subst hg
              omega
            · skip
              intro g913 eg913 g918 eg918
              rcases hg with ⟨hg, n4⟩ | ⟨b1, b2, b3, b4⟩
              rotate_left
              · exfalso
                omega
              subst hg
              refine Or.inr ⟨rfl, Or.inl ⟨flt t i, am_c0 n1 n2 n3 n4 (by omega) (att_nsg A (by decide) (fun y => by omega)), ?_, ?_, ?_⟩⟩
              · rw [eg918, zup_ne (Or.inr (by decide)), eg913, zup_eq]
                rfl
              · rw [eg918, zup_eq, ← att_flt A]
                omega
              · show (0 : Int) < 1
                decide
          · skip
            intro x920 ex920 o14 o15
            refine ⟨fun h16z => ?_, fun h16z => ?_⟩
            · skip
              rcases hg with ⟨hg, n4⟩ | ⟨b1, b2, b3, b4⟩
              rotate_left
              · exact Or.inr ⟨rfl, Or.inl ⟨flt t i, am_ph0 b1 n1 n2 b2, b3, b4, by show (0 : Int) < 1; decide⟩⟩
              exfalso
              subst hg
              omega
            · skip
              intro g930 rg930 g936 eg936
              refine ⟨fun g' => AH (g936 387) (g936 386 2).toNat (g936 386 5).toNat g', ?_, ?_⟩
              · skip
                rcases hg with ⟨hg, n4⟩ | ⟨b1, b2, b3, b4⟩
                rotate_left
                · exfalso
                  omega
                subst hg
                have A0_ := A
                have T0 := hT
                have L0 := hL
                have F0 : FRS ((kd, ph, bg) :: st) g := ⟨f1, f2, f3, f4⟩
                have d0 : g 386 41 = (st.length : Int) + 1 := by omega
                have u0 : g 386 42 = (st.length : Int) := by omega
                have o0 := h45
                have A1 : ATT t P i g930 := ATT_fr A0_ fun k k1 k2 => rg930.s (by
                  have hc : k = 3 ∨ k = 4 ∨ k = 5 ∨ k = 6 ∨ k = 7 ∨ k = 8 := by omega
                  rcases hc with z | z | z | z | z | z <;> subst z <;> decide)
                have T1 := (rg930.a (a := 387) (by decide)).trans T0
                have L1 := (rg930.s (a := 386) (k := 2) (by decide)).trans L0
                have F1 := FRS_eq (rg930.a (by decide)) (rg930.a (by decide)) (rg930.a (by decide)) F0
                have d1 := (rg930.s (a := 386) (k := 41) (by decide)).trans d0
                have u1 := (rg930.s (a := 386) (k := 42) (by decide)).trans u0
                have o1 := (rg930.s (a := 386) (k := 45) (by decide)).trans o0
                rw [ev] at eg936
                have A2 : ATT t P i g936 := by
                  rw [eg936]
                  exact ATT_fr A1 fun _ _ _ => zup_ne (Or.inl (by decide))
                have T2 : g936 387 = T := by rw [eg936, zup_na (by decide), T1]
                have L2 : g936 386 2 = (L : Int) := by rw [eg936, zup_ne (Or.inl (by decide)), L1]
                have d2 : g936 386 41 = (st.length : Int) + 1 := by
                  rw [eg936, zup_ne (Or.inl (by decide))]
                  exact d1
                have u2 : g936 386 42 = (st.length : Int) := by
                  rw [eg936, zup_ne (Or.inl (by decide))]
                  exact u1
                have o2 : g936 386 45 = 1 := by
                  rw [eg936, zup_ne (Or.inl (by decide))]
                  exact o1
                have F2 : FRS ((4, ph, bg) :: st) g936 := by
                  obtain ⟨c1, c2, c3, c4⟩ := F1
                  rw [eg936]
                  exact ⟨zup_eq, by rw [zup_ne (Or.inl (by decide))]; exact c2, by rw [zup_ne (Or.inl (by decide))]; exact c3, FRS_up (Nat.le_refl _) c4⟩
                have aa8 := A2.2.1
                have aa9 := A2.2.2.2.1
                exact w_2310 (by omega) (by omega) (by omega)
              · skip
                intro g942 rg942 qg942 g948 eg948
                rcases hg with ⟨hg, n4⟩ | ⟨b1, b2, b3, b4⟩
                rotate_left
                · exfalso
                  omega
                subst hg
                have sg : sgB t 44 i = true := (att_sg A (by decide)).mpr ⟨by omega, by omega⟩
                have k5 := (sgB_iff.mp sg).1
                have A0_ := A
                have T0 := hT
                have L0 := hL
                have F0 : FRS ((kd, ph, bg) :: st) g := ⟨f1, f2, f3, f4⟩
                have d0 : g 386 41 = (st.length : Int) + 1 := by omega
                have u0 : g 386 42 = (st.length : Int) := by omega
                have o0 := h45
                have A1 : ATT t P i g930 := ATT_fr A0_ fun k k1 k2 => rg930.s (by
                  have hc : k = 3 ∨ k = 4 ∨ k = 5 ∨ k = 6 ∨ k = 7 ∨ k = 8 := by omega
                  rcases hc with z | z | z | z | z | z <;> subst z <;> decide)
                have T1 := (rg930.a (a := 387) (by decide)).trans T0
                have L1 := (rg930.s (a := 386) (k := 2) (by decide)).trans L0
                have F1 := FRS_eq (rg930.a (by decide)) (rg930.a (by decide)) (rg930.a (by decide)) F0
                have d1 := (rg930.s (a := 386) (k := 41) (by decide)).trans d0
                have u1 := (rg930.s (a := 386) (k := 42) (by decide)).trans u0
                have o1 := (rg930.s (a := 386) (k := 45) (by decide)).trans o0
                rw [ev] at eg936
                have A2 : ATT t P i g936 := by
                  rw [eg936]
                  exact ATT_fr A1 fun _ _ _ => zup_ne (Or.inl (by decide))
                have T2 : g936 387 = T := by rw [eg936, zup_na (by decide), T1]
                have L2 : g936 386 2 = (L : Int) := by rw [eg936, zup_ne (Or.inl (by decide)), L1]
                have d2 : g936 386 41 = (st.length : Int) + 1 := by
                  rw [eg936, zup_ne (Or.inl (by decide))]
                  exact d1
                have u2 : g936 386 42 = (st.length : Int) := by
                  rw [eg936, zup_ne (Or.inl (by decide))]
                  exact u1
                have o2 : g936 386 45 = 1 := by
                  rw [eg936, zup_ne (Or.inl (by decide))]
                  exact o1
                have F2 : FRS ((4, ph, bg) :: st) g936 := by
                  obtain ⟨c1, c2, c3, c4⟩ := F1
                  rw [eg936]
                  exact ⟨zup_eq, by rw [zup_ne (Or.inl (by decide))]; exact c2, by rw [zup_ne (Or.inl (by decide))]; exact c3, FRS_up (Nat.le_refl _) c4⟩
                have ha : AH T L (g936 386 5).toNat g942 := by
                  have z : AH (g936 387) (g936 386 2).toNat (g936 386 5).toNat g942 := qg942
                  rw [T2, L2] at z
                  exact z
                have R3 : RSq t P e (.inl (i + 1)) g942 := rs_next (F := fun k => .inl (k + 1)) tk A2 hi (by omega) (by omega) rfl ha
                have F3 := FRS_eq (rg942.a (by decide)) (rg942.a (by decide)) (rg942.a (by decide)) F2
                have d3 := (rg942.s (a := 386) (k := 41) (by decide)).trans d2
                have u3 := (rg942.s (a := 386) (k := 42) (by decide)).trans u2
                have o3 := (rg942.s (a := 386) (k := 45) (by decide)).trans o2
                have R4 : RSq t P e (.inl (i + 1)) g948 := by
                  rw [eg948]
                  exact RSq_sl R3 (by decide)
                have F4 := FRS_o (a := 386) (m := 45) (v := 0) (by decide) F3
                rw [← eg948] at F4
                have d4 : g948 386 41 = (st.length : Int) + 1 := by
                  rw [eg948, zup_ne (Or.inr (by decide))]
                  exact d3
                have u4 : g948 386 42 = (st.length : Int) := by
                  rw [eg948, zup_ne (Or.inr (by decide))]
                  exact u3
                have o4 : g948 386 45 = 0 := by
                  rw [eg948, zup_eq]
                have hl3 : (((4, ph, bg) : zFm) :: st).length = st.length + 1 := rfl
                exact Or.inl ⟨rfl, _, _, _, am_c1 n1 n2 n3 n4 (by omega) sg, ⟨R4.1, R4.2, by rw [d4, hl3]; omega, by rw [u4, hl3]; omega, F4, by simp⟩, o4⟩
