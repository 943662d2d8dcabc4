/-! pure proofs of the recursion (wip/safe/vcp.py) -/
set_option maxHeartbeats 4000000 in
theorem v_1298_c0 {s0 : zF} (hw : OWS s0) (ht : TW s0) : b_1298_c0 s0 (fun v g => RPp 0 s0 v g) := by
  refine ⟨fun n g v73_2 => n = 3 ∧ g = s0 ∧ v73_2 = tokI (toks s0) (s0 2 7).toNat ∧ (v73_2 = -1 ∨ 7 ≤ v73_2) ∧ s0 4 (s0 2 7).toNat ≠ 4, fun n g v85_2 => n = 2 ∧ g = s0 ∧ v85_2 = tokI (toks s0) (s0 2 7).toNat, fun n g v99_2 v99_3 => n = 1 ∧ APar s0 g v99_3 ∧ (v99_3 = 0 ∨ v99_3 = 1), ?_, ?_, ?_, ?_⟩
  · skip
    intro x192 ex192 fx192 gx192
    intro x199 ex199 fx199 gx199
    refine ⟨fun h200 => ?_, fun h200 => ?_⟩
    · skip
      refine ⟨fun v g' => g' = s0 ∧ v = tokI (toks s0) (s0 2 7).toNat, ?_, ?_⟩
      · skip
        exact v_1287 hw
      · skip
        intro x206 hx2061 hx2062 g209 rg209 qg209
        refine ⟨fun h211 => ?_, fun h211 => ?_⟩
        · skip
          refine ⟨fun h212 => ?_, fun h212 => ?_⟩
          · skip
            intro b213 eb213 fb213
            intro x217 ex217
            refine ⟨fun _ => True, ?_, ?_⟩
            · skip
              exact v_515
            · skip
              intro g224 rg224 qg224
              refine ⟨fun g' => g' = stp g224, ?_, ?_⟩
              · skip
                exact v_1289
              · skip
                intro g231 rg231 qg231
                have E0 : EN s0 s0 := EN_refl
                obtain ⟨Q1, N1⟩ : g209 = s0 ∧ x206 = tokI (toks s0) (s0 2 7).toNat := qg209
                rw [E0.1] at N1
                have E1 : EN s0 g209 := by
                  rw [Q1]
                  exact E0
                have Z2 : EN g209 g224 ∧ g224 2 = g209 2 := by
                  first
                    | exact EN_put fb213 rg224
                have E2 : EN s0 g224 := EN_trans E1 Z2.1
                have T3 : g231 = stp g224 := qg231
                have E3 : EN s0 g231 := EN_trans E2 (EN_fr rg231 (by decide) (by decide) (by decide))
                have e2 : g224 2 = s0 2 := by rw [Z2.2, Q1]
                exact part_val ht E2 e2 T3 (Or.inr ⟨by omega, by omega⟩)
          · skip
            have E0 : EN s0 s0 := EN_refl
            obtain ⟨Q1, N1⟩ : g209 = s0 ∧ x206 = tokI (toks s0) (s0 2 7).toNat := qg209
            rw [E0.1] at N1
            have E1 : EN s0 g209 := by
              rw [Q1]
              exact E0
            have k4 : x199 = s0 4 (s0 2 7).toNat := by rw [ex199, ex192]
            exact ⟨3, rfl, Q1, N1, by omega, by omega⟩
        · skip
          have E0 : EN s0 s0 := EN_refl
          obtain ⟨Q1, N1⟩ : g209 = s0 ∧ x206 = tokI (toks s0) (s0 2 7).toNat := qg209
          rw [E0.1] at N1
          have E1 : EN s0 g209 := by
            rw [Q1]
            exact E0
          have k4 : x199 = s0 4 (s0 2 7).toNat := by rw [ex199, ex192]
          exact ⟨3, rfl, Q1, N1, by omega, by omega⟩
    · skip
      intro b233 eb233 fb233
      intro x240 ex240
      refine ⟨fun _ => True, ?_, ?_⟩
      · skip
        exact v_515
      · skip
        intro g246 rg246 qg246
        refine ⟨fun g' => g' = stp g246, ?_, ?_⟩
        · skip
          exact v_1289
        · skip
          intro g253 rg253 qg253
          have E0 : EN s0 s0 := EN_refl
          have Z1 : EN s0 g246 ∧ g246 2 = s0 2 := by
            first
              | exact EN_put fb233 rg246
          have E1 : EN s0 g246 := EN_trans E0 Z1.1
          have T2 : g253 = stp g246 := qg253
          have E2 : EN s0 g253 := EN_trans E1 (EN_fr rg253 (by decide) (by decide) (by decide))
          have k4 : x199 = s0 4 (s0 2 7).toNat := by rw [ex199, ex192]
          exact part_val ht E1 Z1.2 T2 (Or.inl (by omega))
  · intro n g v73_2 rg qv73_20 qv73_21 hI
    obtain ⟨hn, hg, hv, hv2, h4⟩ := hI
    subst hg
    refine ⟨fun h1 => ?_, fun h1 => ?_⟩
    · skip
      refine ⟨fun h2 => ?_, fun h2 => ?_⟩
      · skip
        exact ⟨1, by omega, rfl, ⟨ht, EN_refl, Or.inl ⟨rfl, rfl, h4, by omega, by omega, by omega⟩⟩, Or.inl rfl⟩
      · skip
        exact ⟨2, by omega, rfl, rfl, hv⟩
    · skip
      exact ⟨2, by omega, rfl, rfl, hv⟩
  · intro n g v85_2 rg qv85_20 qv85_21 hI
    obtain ⟨hn, hg, hv⟩ := hI
    subst hg
    refine ⟨fun g' => g' = stp g, ?_, ?_⟩
    · skip
      exact v_1289
    · skip
      intro g8 rg8 qg8
      have k2 : g 4 (g 2 7).toNat = 2 := tokI_2 (t := toks g) (by omega)
      obtain ⟨w, d, m, f⟩ := stp_ok ht (by omega) (by omega) (qg8 : g8 = stp g)
      exact ⟨1, by omega, rfl, ⟨w, f, Or.inr ⟨rfl, d, ht.1, by omega⟩⟩, Or.inr rfl⟩
  · intro n g v99_2 v99_3 rg qv99_20 qv99_21 qv99_30 qv99_31 hI
    obtain ⟨hn, hp, hpr⟩ := hI
    refine ⟨fun v g' => g' = g ∧ (v = 1 ∧ isSg (toks g) 40 (g 2 7).toNat ∨ v = 0 ∧ ¬ isSg (toks g) 40 (g 2 7).toNat), ?_, ?_⟩
    · skip
      exact v_1299
    · skip
      intro x15 hx151 hx152 g18 rg18 qg18
      refine ⟨fun h20 => ?_, fun h20 => ?_⟩
      · skip
        refine ⟨fun g' => g' = stp g18, ?_, ?_⟩
        · skip
          exact v_1289
        · skip
          intro g26 rg26 qg26
          refine ⟨fun v g' => RSp 1 g26 v g', ?_, ?_⟩
          · skip
            have E0 : EN s0 g := EN_fr rg (by decide) (by decide) (by decide)
            obtain ⟨Q1, N1⟩ : g18 = g ∧ (x15 = 1 ∧ isSg (toks g) 40 (g 2 7).toNat ∨ x15 = 0 ∧ ¬ isSg (toks g) 40 (g 2 7).toNat) := qg18
            have B1 := sg_q E0 N1
            have E1 : EN s0 g18 := by
              rw [Q1]
              exact E0
            have T2 : g26 = stp g18 := qg26
            have E2 : EN s0 g26 := EN_trans E1 (EN_fr rg26 (by decide) (by decide) (by decide))
            have S1 : sgB (toks s0) 40 (g 2 7).toNat = true := by
              rcases B1 with ⟨z, y⟩ | ⟨z, y⟩
              · exact y
              · exact absurd z (by omega)
            rw [Q1] at T2
            have O2 : OPN 0 s0 g26 (frk v99_3) true := APar_open hp (by decide) S1 T2
            exact v_1297_c1 (OWS_en hw E2) O2.1
          · skip
            intro x33 hx331 hx332 g36 rg36 qg36
            refine ⟨fun h38 => ?_, fun h38 => ?_⟩
            · skip
              refine ⟨fun h39 => ?_, fun h39 => ?_⟩
              · skip
                refine ⟨fun v g' => g' = g36 ∧ (v = 1 ∧ isSg (toks g36) 44 (g36 2 7).toNat ∨ v = 0 ∧ ¬ isSg (toks g36) 44 (g36 2 7).toNat), ?_, ?_⟩
                · skip
                  exact v_1299
                · skip
                  intro x45 hx451 hx452 g48 rg48 qg48
                  refine ⟨fun h50 => ?_, fun h50 => ?_⟩
                  · skip
                    refine ⟨fun g' => g' = stp g48, ?_, ?_⟩
                    · skip
                      exact v_1289
                    · skip
                      intro g56 rg56 qg56
                      refine ⟨fun v g' => RSp 1 g56 v g', ?_, ?_⟩
                      · skip
                        have E0 : EN s0 g := EN_fr rg (by decide) (by decide) (by decide)
                        obtain ⟨Q1, N1⟩ : g18 = g ∧ (x15 = 1 ∧ isSg (toks g) 40 (g 2 7).toNat ∨ x15 = 0 ∧ ¬ isSg (toks g) 40 (g 2 7).toNat) := qg18
                        have B1 := sg_q E0 N1
                        have E1 : EN s0 g18 := by
                          rw [Q1]
                          exact E0
                        have T2 : g26 = stp g18 := qg26
                        have E2 : EN s0 g26 := EN_trans E1 (EN_fr rg26 (by decide) (by decide) (by decide))
                        have R3 : RSp 1 g26 x33 g36 := qg36
                        have F3 : EN g26 g36 := EN_fr rg36 (by decide) (by decide) (by decide)
                        have E3 : EN s0 g36 := EN_trans E2 F3
                        obtain ⟨Q4, N4⟩ : g48 = g36 ∧ (x45 = 1 ∧ isSg (toks g36) 44 (g36 2 7).toNat ∨ x45 = 0 ∧ ¬ isSg (toks g36) 44 (g36 2 7).toNat) := qg48
                        have B4 := sg_q E3 N4
                        have E4 : EN s0 g48 := by
                          rw [Q4]
                          exact E3
                        have T5 : g56 = stp g48 := qg56
                        have E5 : EN s0 g56 := EN_trans E4 (EN_fr rg56 (by decide) (by decide) (by decide))
                        have S4 : sgB (toks s0) 44 (g36 2 7).toNat = true := by
                          rcases B4 with ⟨z, y⟩ | ⟨z, y⟩
                          · exact y
                          · exact absurd z (by omega)
                        have S1 : sgB (toks s0) 40 (g 2 7).toNat = true := by
                          rcases B1 with ⟨z, y⟩ | ⟨z, y⟩
                          · exact y
                          · exact absurd z (by omega)
                        rw [Q1] at T2
                        have O2 : OPN 0 s0 g26 (frk v99_3) true := APar_open hp (by decide) S1 T2
                        have M3 : SMD 0 s0 g36 (frk v99_3) := OPN_sum O2 (by rcases frk_cases hpr with z | z <;> omega) R3 F3 (by omega) (by omega) (by omega)
                        have K3 : frk v99_3 = 3 := by
                          rcases frk_cases hpr with z | z <;> omega
                        rw [K3] at M3
                        rw [Q4] at T5
                        have O5 : OPN 0 s0 g56 4 false := SMD_comma M3 S4 T5
                        exact v_1297_c1 (OWS_en hw E5) O5.1
                      · skip
                        intro x63 hx631 hx632 g66 rg66 qg66
                        refine ⟨fun h68 => ?_, fun h68 => ?_⟩
                        · skip
                          intro b69 eb69 fb69
                          refine ⟨fun h73 => ?_, fun h73 => ?_⟩
                          · skip
                            refine ⟨fun _ => True, ?_, ?_⟩
                            · skip
                              exact v_515
                            · skip
                              intro g79 rg79 qg79
                              refine ⟨fun v g' => g' = g79 ∧ (v = 1 ∧ isSg (toks g79) 41 (g79 2 7).toNat ∨ v = 0 ∧ ¬ isSg (toks g79) 41 (g79 2 7).toNat), ?_, ?_⟩
                              · skip
                                exact v_1299
                              · skip
                                intro x86 hx861 hx862 g89 rg89 qg89
                                refine ⟨fun h91 => ?_, fun h91 => ?_⟩
                                · skip
                                  refine ⟨fun g' => g' = stp g89, ?_, ?_⟩
                                  · skip
                                    exact v_1289
                                  · skip
                                    intro g97 rg97 qg97
                                    have E0 : EN s0 g := EN_fr rg (by decide) (by decide) (by decide)
                                    obtain ⟨Q1, N1⟩ : g18 = g ∧ (x15 = 1 ∧ isSg (toks g) 40 (g 2 7).toNat ∨ x15 = 0 ∧ ¬ isSg (toks g) 40 (g 2 7).toNat) := qg18
                                    have B1 := sg_q E0 N1
                                    have E1 : EN s0 g18 := by
                                      rw [Q1]
                                      exact E0
                                    have T2 : g26 = stp g18 := qg26
                                    have E2 : EN s0 g26 := EN_trans E1 (EN_fr rg26 (by decide) (by decide) (by decide))
                                    have R3 : RSp 1 g26 x33 g36 := qg36
                                    have F3 : EN g26 g36 := EN_fr rg36 (by decide) (by decide) (by decide)
                                    have E3 : EN s0 g36 := EN_trans E2 F3
                                    obtain ⟨Q4, N4⟩ : g48 = g36 ∧ (x45 = 1 ∧ isSg (toks g36) 44 (g36 2 7).toNat ∨ x45 = 0 ∧ ¬ isSg (toks g36) 44 (g36 2 7).toNat) := qg48
                                    have B4 := sg_q E3 N4
                                    have E4 : EN s0 g48 := by
                                      rw [Q4]
                                      exact E3
                                    have T5 : g56 = stp g48 := qg56
                                    have E5 : EN s0 g56 := EN_trans E4 (EN_fr rg56 (by decide) (by decide) (by decide))
                                    have R6 : RSp 1 g56 x63 g66 := qg66
                                    have F6 : EN g56 g66 := EN_fr rg66 (by decide) (by decide) (by decide)
                                    have E6 : EN s0 g66 := EN_trans E5 F6
                                    have Z7 : EN g66 g79 ∧ g79 2 = g66 2 := by
                                      first
                                        | exact EN_put fb69 rg79
                                    have E7 : EN s0 g79 := EN_trans E6 Z7.1
                                    obtain ⟨Q8, N8⟩ : g89 = g79 ∧ (x86 = 1 ∧ isSg (toks g79) 41 (g79 2 7).toNat ∨ x86 = 0 ∧ ¬ isSg (toks g79) 41 (g79 2 7).toNat) := qg89
                                    have B8 := sg_q E7 N8
                                    have E8 : EN s0 g89 := by
                                      rw [Q8]
                                      exact E7
                                    have T9 : g97 = stp g89 := qg97
                                    have E9 : EN s0 g97 := EN_trans E8 (EN_fr rg97 (by decide) (by decide) (by decide))
                                    have S8 : sgB (toks s0) 41 (g79 2 7).toNat = true := by
                                      rcases B8 with ⟨z, y⟩ | ⟨z, y⟩
                                      · exact y
                                      · exact absurd z (by omega)
                                    have S4 : sgB (toks s0) 44 (g36 2 7).toNat = true := by
                                      rcases B4 with ⟨z, y⟩ | ⟨z, y⟩
                                      · exact y
                                      · exact absurd z (by omega)
                                    have S1 : sgB (toks s0) 40 (g 2 7).toNat = true := by
                                      rcases B1 with ⟨z, y⟩ | ⟨z, y⟩
                                      · exact y
                                      · exact absurd z (by omega)
                                    rw [Q1] at T2
                                    have O2 : OPN 0 s0 g26 (frk v99_3) true := APar_open hp (by decide) S1 T2
                                    have M3 : SMD 0 s0 g36 (frk v99_3) := OPN_sum O2 (by rcases frk_cases hpr with z | z <;> omega) R3 F3 (by omega) (by omega) (by omega)
                                    have K3 : frk v99_3 = 3 := by
                                      rcases frk_cases hpr with z | z <;> omega
                                    rw [K3] at M3
                                    rw [Q4] at T5
                                    have O5 : OPN 0 s0 g56 4 false := SMD_comma M3 S4 T5
                                    have M6 : SMD 0 s0 g66 4 := OPN_sum O5 (Or.inr (Or.inr rfl)) R6 F6 (by omega) (by omega) (by omega)
                                    have M7 := SMD_en M6 Z7.1 Z7.2
                                    rw [Q8] at T9
                                    exact SMD_close M7 (Or.inr rfl) S8 T9
                                · skip
                                  refine ⟨fun _ g' => (g' 2 0, g' 2 1) = ((1 : Int), if (1 : Int) = 1 ∧ g89 4 (g89 2 7).toNat = 1 then g89 5 (g89 2 7).toNat else g89 6 (g89 2 7).toNat), ?_, ?_⟩
                                  · skip
                                    exact v_1286
                                  · skip
                                    intro x104 hx1041 hx1042 g107 rg107 qg107
                                    have E0 : EN s0 g := EN_fr rg (by decide) (by decide) (by decide)
                                    obtain ⟨Q1, N1⟩ : g18 = g ∧ (x15 = 1 ∧ isSg (toks g) 40 (g 2 7).toNat ∨ x15 = 0 ∧ ¬ isSg (toks g) 40 (g 2 7).toNat) := qg18
                                    have B1 := sg_q E0 N1
                                    have E1 : EN s0 g18 := by
                                      rw [Q1]
                                      exact E0
                                    have T2 : g26 = stp g18 := qg26
                                    have E2 : EN s0 g26 := EN_trans E1 (EN_fr rg26 (by decide) (by decide) (by decide))
                                    have R3 : RSp 1 g26 x33 g36 := qg36
                                    have F3 : EN g26 g36 := EN_fr rg36 (by decide) (by decide) (by decide)
                                    have E3 : EN s0 g36 := EN_trans E2 F3
                                    obtain ⟨Q4, N4⟩ : g48 = g36 ∧ (x45 = 1 ∧ isSg (toks g36) 44 (g36 2 7).toNat ∨ x45 = 0 ∧ ¬ isSg (toks g36) 44 (g36 2 7).toNat) := qg48
                                    have B4 := sg_q E3 N4
                                    have E4 : EN s0 g48 := by
                                      rw [Q4]
                                      exact E3
                                    have T5 : g56 = stp g48 := qg56
                                    have E5 : EN s0 g56 := EN_trans E4 (EN_fr rg56 (by decide) (by decide) (by decide))
                                    have R6 : RSp 1 g56 x63 g66 := qg66
                                    have F6 : EN g56 g66 := EN_fr rg66 (by decide) (by decide) (by decide)
                                    have E6 : EN s0 g66 := EN_trans E5 F6
                                    have Z7 : EN g66 g79 ∧ g79 2 = g66 2 := by
                                      first
                                        | exact EN_put fb69 rg79
                                    have E7 : EN s0 g79 := EN_trans E6 Z7.1
                                    obtain ⟨Q8, N8⟩ : g89 = g79 ∧ (x86 = 1 ∧ isSg (toks g79) 41 (g79 2 7).toNat ∨ x86 = 0 ∧ ¬ isSg (toks g79) 41 (g79 2 7).toNat) := qg89
                                    have B8 := sg_q E7 N8
                                    have E8 : EN s0 g89 := by
                                      rw [Q8]
                                      exact E7
                                    have X9 : (g107 2 0, g107 2 1) = ((1 : Int), if (1 : Int) = 1 ∧ g89 4 (g89 2 7).toNat = 1 then g89 5 (g89 2 7).toNat else g89 6 (g89 2 7).toNat) := qg107
                                    have E9 : EN s0 g107 := EN_trans E8 (EN_fr rg107 (by decide) (by decide) (by decide))
                                    have S8 : sgB (toks s0) 41 (g79 2 7).toNat = false := by
                                      rcases B8 with ⟨z, y⟩ | ⟨z, y⟩
                                      · exact absurd z (by omega)
                                      · exact y
                                    rw [Q8] at X9
                                    have Y9 := flt_q X9
                                    rw [E7.1] at Y9
                                    have S4 : sgB (toks s0) 44 (g36 2 7).toNat = true := by
                                      rcases B4 with ⟨z, y⟩ | ⟨z, y⟩
                                      · exact y
                                      · exact absurd z (by omega)
                                    have S1 : sgB (toks s0) 40 (g 2 7).toNat = true := by
                                      rcases B1 with ⟨z, y⟩ | ⟨z, y⟩
                                      · exact y
                                      · exact absurd z (by omega)
                                    rw [Q1] at T2
                                    have O2 : OPN 0 s0 g26 (frk v99_3) true := APar_open hp (by decide) S1 T2
                                    have M3 : SMD 0 s0 g36 (frk v99_3) := OPN_sum O2 (by rcases frk_cases hpr with z | z <;> omega) R3 F3 (by omega) (by omega) (by omega)
                                    have K3 : frk v99_3 = 3 := by
                                      rcases frk_cases hpr with z | z <;> omega
                                    rw [K3] at M3
                                    rw [Q4] at T5
                                    have O5 : OPN 0 s0 g56 4 false := SMD_comma M3 S4 T5
                                    have M6 : SMD 0 s0 g66 4 := OPN_sum O5 (Or.inr (Or.inr rfl)) R6 F6 (by omega) (by omega) (by omega)
                                    have M7 := SMD_en M6 Z7.1 Z7.2
                                    exact SMD_close0 M7 (Or.inr rfl) S8 (by omega) Y9
                          · skip
                            refine ⟨fun _ => True, ?_, ?_⟩
                            · skip
                              exact v_515
                            · skip
                              intro g114 rg114 qg114
                              refine ⟨fun v g' => g' = g114 ∧ (v = 1 ∧ isSg (toks g114) 41 (g114 2 7).toNat ∨ v = 0 ∧ ¬ isSg (toks g114) 41 (g114 2 7).toNat), ?_, ?_⟩
                              · skip
                                exact v_1299
                              · skip
                                intro x121 hx1211 hx1212 g124 rg124 qg124
                                refine ⟨fun h126 => ?_, fun h126 => ?_⟩
                                · skip
                                  refine ⟨fun g' => g' = stp g124, ?_, ?_⟩
                                  · skip
                                    exact v_1289
                                  · skip
                                    intro g132 rg132 qg132
                                    have E0 : EN s0 g := EN_fr rg (by decide) (by decide) (by decide)
                                    obtain ⟨Q1, N1⟩ : g18 = g ∧ (x15 = 1 ∧ isSg (toks g) 40 (g 2 7).toNat ∨ x15 = 0 ∧ ¬ isSg (toks g) 40 (g 2 7).toNat) := qg18
                                    have B1 := sg_q E0 N1
                                    have E1 : EN s0 g18 := by
                                      rw [Q1]
                                      exact E0
                                    have T2 : g26 = stp g18 := qg26
                                    have E2 : EN s0 g26 := EN_trans E1 (EN_fr rg26 (by decide) (by decide) (by decide))
                                    have R3 : RSp 1 g26 x33 g36 := qg36
                                    have F3 : EN g26 g36 := EN_fr rg36 (by decide) (by decide) (by decide)
                                    have E3 : EN s0 g36 := EN_trans E2 F3
                                    obtain ⟨Q4, N4⟩ : g48 = g36 ∧ (x45 = 1 ∧ isSg (toks g36) 44 (g36 2 7).toNat ∨ x45 = 0 ∧ ¬ isSg (toks g36) 44 (g36 2 7).toNat) := qg48
                                    have B4 := sg_q E3 N4
                                    have E4 : EN s0 g48 := by
                                      rw [Q4]
                                      exact E3
                                    have T5 : g56 = stp g48 := qg56
                                    have E5 : EN s0 g56 := EN_trans E4 (EN_fr rg56 (by decide) (by decide) (by decide))
                                    have R6 : RSp 1 g56 x63 g66 := qg66
                                    have F6 : EN g56 g66 := EN_fr rg66 (by decide) (by decide) (by decide)
                                    have E6 : EN s0 g66 := EN_trans E5 F6
                                    have Z7 : EN g66 g114 ∧ g114 2 = g66 2 := by
                                      first
                                        | exact EN_put fb69 rg114
                                    have E7 : EN s0 g114 := EN_trans E6 Z7.1
                                    obtain ⟨Q8, N8⟩ : g124 = g114 ∧ (x121 = 1 ∧ isSg (toks g114) 41 (g114 2 7).toNat ∨ x121 = 0 ∧ ¬ isSg (toks g114) 41 (g114 2 7).toNat) := qg124
                                    have B8 := sg_q E7 N8
                                    have E8 : EN s0 g124 := by
                                      rw [Q8]
                                      exact E7
                                    have T9 : g132 = stp g124 := qg132
                                    have E9 : EN s0 g132 := EN_trans E8 (EN_fr rg132 (by decide) (by decide) (by decide))
                                    have S8 : sgB (toks s0) 41 (g114 2 7).toNat = true := by
                                      rcases B8 with ⟨z, y⟩ | ⟨z, y⟩
                                      · exact y
                                      · exact absurd z (by omega)
                                    have S4 : sgB (toks s0) 44 (g36 2 7).toNat = true := by
                                      rcases B4 with ⟨z, y⟩ | ⟨z, y⟩
                                      · exact y
                                      · exact absurd z (by omega)
                                    have S1 : sgB (toks s0) 40 (g 2 7).toNat = true := by
                                      rcases B1 with ⟨z, y⟩ | ⟨z, y⟩
                                      · exact y
                                      · exact absurd z (by omega)
                                    rw [Q1] at T2
                                    have O2 : OPN 0 s0 g26 (frk v99_3) true := APar_open hp (by decide) S1 T2
                                    have M3 : SMD 0 s0 g36 (frk v99_3) := OPN_sum O2 (by rcases frk_cases hpr with z | z <;> omega) R3 F3 (by omega) (by omega) (by omega)
                                    have K3 : frk v99_3 = 3 := by
                                      rcases frk_cases hpr with z | z <;> omega
                                    rw [K3] at M3
                                    rw [Q4] at T5
                                    have O5 : OPN 0 s0 g56 4 false := SMD_comma M3 S4 T5
                                    have M6 : SMD 0 s0 g66 4 := OPN_sum O5 (Or.inr (Or.inr rfl)) R6 F6 (by omega) (by omega) (by omega)
                                    have M7 := SMD_en M6 Z7.1 Z7.2
                                    rw [Q8] at T9
                                    exact SMD_close M7 (Or.inr rfl) S8 T9
                                · skip
                                  refine ⟨fun _ g' => (g' 2 0, g' 2 1) = ((1 : Int), if (1 : Int) = 1 ∧ g124 4 (g124 2 7).toNat = 1 then g124 5 (g124 2 7).toNat else g124 6 (g124 2 7).toNat), ?_, ?_⟩
                                  · skip
                                    exact v_1286
                                  · skip
                                    intro x139 hx1391 hx1392 g142 rg142 qg142
                                    have E0 : EN s0 g := EN_fr rg (by decide) (by decide) (by decide)
                                    obtain ⟨Q1, N1⟩ : g18 = g ∧ (x15 = 1 ∧ isSg (toks g) 40 (g 2 7).toNat ∨ x15 = 0 ∧ ¬ isSg (toks g) 40 (g 2 7).toNat) := qg18
                                    have B1 := sg_q E0 N1
                                    have E1 : EN s0 g18 := by
                                      rw [Q1]
                                      exact E0
                                    have T2 : g26 = stp g18 := qg26
                                    have E2 : EN s0 g26 := EN_trans E1 (EN_fr rg26 (by decide) (by decide) (by decide))
                                    have R3 : RSp 1 g26 x33 g36 := qg36
                                    have F3 : EN g26 g36 := EN_fr rg36 (by decide) (by decide) (by decide)
                                    have E3 : EN s0 g36 := EN_trans E2 F3
                                    obtain ⟨Q4, N4⟩ : g48 = g36 ∧ (x45 = 1 ∧ isSg (toks g36) 44 (g36 2 7).toNat ∨ x45 = 0 ∧ ¬ isSg (toks g36) 44 (g36 2 7).toNat) := qg48
                                    have B4 := sg_q E3 N4
                                    have E4 : EN s0 g48 := by
                                      rw [Q4]
                                      exact E3
                                    have T5 : g56 = stp g48 := qg56
                                    have E5 : EN s0 g56 := EN_trans E4 (EN_fr rg56 (by decide) (by decide) (by decide))
                                    have R6 : RSp 1 g56 x63 g66 := qg66
                                    have F6 : EN g56 g66 := EN_fr rg66 (by decide) (by decide) (by decide)
                                    have E6 : EN s0 g66 := EN_trans E5 F6
                                    have Z7 : EN g66 g114 ∧ g114 2 = g66 2 := by
                                      first
                                        | exact EN_put fb69 rg114
                                    have E7 : EN s0 g114 := EN_trans E6 Z7.1
                                    obtain ⟨Q8, N8⟩ : g124 = g114 ∧ (x121 = 1 ∧ isSg (toks g114) 41 (g114 2 7).toNat ∨ x121 = 0 ∧ ¬ isSg (toks g114) 41 (g114 2 7).toNat) := qg124
                                    have B8 := sg_q E7 N8
                                    have E8 : EN s0 g124 := by
                                      rw [Q8]
                                      exact E7
                                    have X9 : (g142 2 0, g142 2 1) = ((1 : Int), if (1 : Int) = 1 ∧ g124 4 (g124 2 7).toNat = 1 then g124 5 (g124 2 7).toNat else g124 6 (g124 2 7).toNat) := qg142
                                    have E9 : EN s0 g142 := EN_trans E8 (EN_fr rg142 (by decide) (by decide) (by decide))
                                    have S8 : sgB (toks s0) 41 (g114 2 7).toNat = false := by
                                      rcases B8 with ⟨z, y⟩ | ⟨z, y⟩
                                      · exact absurd z (by omega)
                                      · exact y
                                    rw [Q8] at X9
                                    have Y9 := flt_q X9
                                    rw [E7.1] at Y9
                                    have S4 : sgB (toks s0) 44 (g36 2 7).toNat = true := by
                                      rcases B4 with ⟨z, y⟩ | ⟨z, y⟩
                                      · exact y
                                      · exact absurd z (by omega)
                                    have S1 : sgB (toks s0) 40 (g 2 7).toNat = true := by
                                      rcases B1 with ⟨z, y⟩ | ⟨z, y⟩
                                      · exact y
                                      · exact absurd z (by omega)
                                    rw [Q1] at T2
                                    have O2 : OPN 0 s0 g26 (frk v99_3) true := APar_open hp (by decide) S1 T2
                                    have M3 : SMD 0 s0 g36 (frk v99_3) := OPN_sum O2 (by rcases frk_cases hpr with z | z <;> omega) R3 F3 (by omega) (by omega) (by omega)
                                    have K3 : frk v99_3 = 3 := by
                                      rcases frk_cases hpr with z | z <;> omega
                                    rw [K3] at M3
                                    rw [Q4] at T5
                                    have O5 : OPN 0 s0 g56 4 false := SMD_comma M3 S4 T5
                                    have M6 : SMD 0 s0 g66 4 := OPN_sum O5 (Or.inr (Or.inr rfl)) R6 F6 (by omega) (by omega) (by omega)
                                    have M7 := SMD_en M6 Z7.1 Z7.2
                                    exact SMD_close0 M7 (Or.inr rfl) S8 (by omega) Y9
                        · skip
                          have E0 : EN s0 g := EN_fr rg (by decide) (by decide) (by decide)
                          obtain ⟨Q1, N1⟩ : g18 = g ∧ (x15 = 1 ∧ isSg (toks g) 40 (g 2 7).toNat ∨ x15 = 0 ∧ ¬ isSg (toks g) 40 (g 2 7).toNat) := qg18
                          have B1 := sg_q E0 N1
                          have E1 : EN s0 g18 := by
                            rw [Q1]
                            exact E0
                          have T2 : g26 = stp g18 := qg26
                          have E2 : EN s0 g26 := EN_trans E1 (EN_fr rg26 (by decide) (by decide) (by decide))
                          have R3 : RSp 1 g26 x33 g36 := qg36
                          have F3 : EN g26 g36 := EN_fr rg36 (by decide) (by decide) (by decide)
                          have E3 : EN s0 g36 := EN_trans E2 F3
                          obtain ⟨Q4, N4⟩ : g48 = g36 ∧ (x45 = 1 ∧ isSg (toks g36) 44 (g36 2 7).toNat ∨ x45 = 0 ∧ ¬ isSg (toks g36) 44 (g36 2 7).toNat) := qg48
                          have B4 := sg_q E3 N4
                          have E4 : EN s0 g48 := by
                            rw [Q4]
                            exact E3
                          have T5 : g56 = stp g48 := qg56
                          have E5 : EN s0 g56 := EN_trans E4 (EN_fr rg56 (by decide) (by decide) (by decide))
                          have R6 : RSp 1 g56 x63 g66 := qg66
                          have F6 : EN g56 g66 := EN_fr rg66 (by decide) (by decide) (by decide)
                          have E6 : EN s0 g66 := EN_trans E5 F6
                          have S4 : sgB (toks s0) 44 (g36 2 7).toNat = true := by
                            rcases B4 with ⟨z, y⟩ | ⟨z, y⟩
                            · exact y
                            · exact absurd z (by omega)
                          have S1 : sgB (toks s0) 40 (g 2 7).toNat = true := by
                            rcases B1 with ⟨z, y⟩ | ⟨z, y⟩
                            · exact y
                            · exact absurd z (by omega)
                          rw [Q1] at T2
                          have O2 : OPN 0 s0 g26 (frk v99_3) true := APar_open hp (by decide) S1 T2
                          have M3 : SMD 0 s0 g36 (frk v99_3) := OPN_sum O2 (by rcases frk_cases hpr with z | z <;> omega) R3 F3 (by omega) (by omega) (by omega)
                          have K3 : frk v99_3 = 3 := by
                            rcases frk_cases hpr with z | z <;> omega
                          rw [K3] at M3
                          rw [Q4] at T5
                          have O5 : OPN 0 s0 g56 4 false := SMD_comma M3 S4 T5
                          exact OPN_sum0 O5 (Or.inr (Or.inr rfl)) R6 (by omega)
                  · skip
                    refine ⟨fun _ g' => (g' 2 0, g' 2 1) = ((1 : Int), if (1 : Int) = 1 ∧ g48 4 (g48 2 7).toNat = 1 then g48 5 (g48 2 7).toNat else g48 6 (g48 2 7).toNat), ?_, ?_⟩
                    · skip
                      exact v_1286
                    · skip
                      intro x149 hx1491 hx1492 g152 rg152 qg152
                      have E0 : EN s0 g := EN_fr rg (by decide) (by decide) (by decide)
                      obtain ⟨Q1, N1⟩ : g18 = g ∧ (x15 = 1 ∧ isSg (toks g) 40 (g 2 7).toNat ∨ x15 = 0 ∧ ¬ isSg (toks g) 40 (g 2 7).toNat) := qg18
                      have B1 := sg_q E0 N1
                      have E1 : EN s0 g18 := by
                        rw [Q1]
                        exact E0
                      have T2 : g26 = stp g18 := qg26
                      have E2 : EN s0 g26 := EN_trans E1 (EN_fr rg26 (by decide) (by decide) (by decide))
                      have R3 : RSp 1 g26 x33 g36 := qg36
                      have F3 : EN g26 g36 := EN_fr rg36 (by decide) (by decide) (by decide)
                      have E3 : EN s0 g36 := EN_trans E2 F3
                      obtain ⟨Q4, N4⟩ : g48 = g36 ∧ (x45 = 1 ∧ isSg (toks g36) 44 (g36 2 7).toNat ∨ x45 = 0 ∧ ¬ isSg (toks g36) 44 (g36 2 7).toNat) := qg48
                      have B4 := sg_q E3 N4
                      have E4 : EN s0 g48 := by
                        rw [Q4]
                        exact E3
                      have X5 : (g152 2 0, g152 2 1) = ((1 : Int), if (1 : Int) = 1 ∧ g48 4 (g48 2 7).toNat = 1 then g48 5 (g48 2 7).toNat else g48 6 (g48 2 7).toNat) := qg152
                      have E5 : EN s0 g152 := EN_trans E4 (EN_fr rg152 (by decide) (by decide) (by decide))
                      have S4 : sgB (toks s0) 44 (g36 2 7).toNat = false := by
                        rcases B4 with ⟨z, y⟩ | ⟨z, y⟩
                        · exact absurd z (by omega)
                        · exact y
                      rw [Q4] at X5
                      have Y5 := flt_q X5
                      rw [E3.1] at Y5
                      have S1 : sgB (toks s0) 40 (g 2 7).toNat = true := by
                        rcases B1 with ⟨z, y⟩ | ⟨z, y⟩
                        · exact y
                        · exact absurd z (by omega)
                      rw [Q1] at T2
                      have O2 : OPN 0 s0 g26 (frk v99_3) true := APar_open hp (by decide) S1 T2
                      have M3 : SMD 0 s0 g36 (frk v99_3) := OPN_sum O2 (by rcases frk_cases hpr with z | z <;> omega) R3 F3 (by omega) (by omega) (by omega)
                      have K3 : frk v99_3 = 3 := by
                        rcases frk_cases hpr with z | z <;> omega
                      rw [K3] at M3
                      exact SMD_comma0 M3 S4 (by omega) Y5
              · skip
                refine ⟨fun v g' => g' = g36 ∧ (v = 1 ∧ isSg (toks g36) 41 (g36 2 7).toNat ∨ v = 0 ∧ ¬ isSg (toks g36) 41 (g36 2 7).toNat), ?_, ?_⟩
                · skip
                  exact v_1299
                · skip
                  intro x159 hx1591 hx1592 g162 rg162 qg162
                  refine ⟨fun h164 => ?_, fun h164 => ?_⟩
                  · skip
                    refine ⟨fun g' => g' = stp g162, ?_, ?_⟩
                    · skip
                      exact v_1289
                    · skip
                      intro g170 rg170 qg170
                      have E0 : EN s0 g := EN_fr rg (by decide) (by decide) (by decide)
                      obtain ⟨Q1, N1⟩ : g18 = g ∧ (x15 = 1 ∧ isSg (toks g) 40 (g 2 7).toNat ∨ x15 = 0 ∧ ¬ isSg (toks g) 40 (g 2 7).toNat) := qg18
                      have B1 := sg_q E0 N1
                      have E1 : EN s0 g18 := by
                        rw [Q1]
                        exact E0
                      have T2 : g26 = stp g18 := qg26
                      have E2 : EN s0 g26 := EN_trans E1 (EN_fr rg26 (by decide) (by decide) (by decide))
                      have R3 : RSp 1 g26 x33 g36 := qg36
                      have F3 : EN g26 g36 := EN_fr rg36 (by decide) (by decide) (by decide)
                      have E3 : EN s0 g36 := EN_trans E2 F3
                      obtain ⟨Q4, N4⟩ : g162 = g36 ∧ (x159 = 1 ∧ isSg (toks g36) 41 (g36 2 7).toNat ∨ x159 = 0 ∧ ¬ isSg (toks g36) 41 (g36 2 7).toNat) := qg162
                      have B4 := sg_q E3 N4
                      have E4 : EN s0 g162 := by
                        rw [Q4]
                        exact E3
                      have T5 : g170 = stp g162 := qg170
                      have E5 : EN s0 g170 := EN_trans E4 (EN_fr rg170 (by decide) (by decide) (by decide))
                      have S4 : sgB (toks s0) 41 (g36 2 7).toNat = true := by
                        rcases B4 with ⟨z, y⟩ | ⟨z, y⟩
                        · exact y
                        · exact absurd z (by omega)
                      have S1 : sgB (toks s0) 40 (g 2 7).toNat = true := by
                        rcases B1 with ⟨z, y⟩ | ⟨z, y⟩
                        · exact y
                        · exact absurd z (by omega)
                      rw [Q1] at T2
                      have O2 : OPN 0 s0 g26 (frk v99_3) true := APar_open hp (by decide) S1 T2
                      have M3 : SMD 0 s0 g36 (frk v99_3) := OPN_sum O2 (by rcases frk_cases hpr with z | z <;> omega) R3 F3 (by omega) (by omega) (by omega)
                      have K3 : frk v99_3 = 2 := by
                        rcases frk_cases hpr with z | z <;> omega
                      rw [K3] at M3
                      rw [Q4] at T5
                      exact SMD_close M3 (Or.inl rfl) S4 T5
                  · skip
                    refine ⟨fun _ g' => (g' 2 0, g' 2 1) = ((1 : Int), if (1 : Int) = 1 ∧ g162 4 (g162 2 7).toNat = 1 then g162 5 (g162 2 7).toNat else g162 6 (g162 2 7).toNat), ?_, ?_⟩
                    · skip
                      exact v_1286
                    · skip
                      intro x177 hx1771 hx1772 g180 rg180 qg180
                      have E0 : EN s0 g := EN_fr rg (by decide) (by decide) (by decide)
                      obtain ⟨Q1, N1⟩ : g18 = g ∧ (x15 = 1 ∧ isSg (toks g) 40 (g 2 7).toNat ∨ x15 = 0 ∧ ¬ isSg (toks g) 40 (g 2 7).toNat) := qg18
                      have B1 := sg_q E0 N1
                      have E1 : EN s0 g18 := by
                        rw [Q1]
                        exact E0
                      have T2 : g26 = stp g18 := qg26
                      have E2 : EN s0 g26 := EN_trans E1 (EN_fr rg26 (by decide) (by decide) (by decide))
                      have R3 : RSp 1 g26 x33 g36 := qg36
                      have F3 : EN g26 g36 := EN_fr rg36 (by decide) (by decide) (by decide)
                      have E3 : EN s0 g36 := EN_trans E2 F3
                      obtain ⟨Q4, N4⟩ : g162 = g36 ∧ (x159 = 1 ∧ isSg (toks g36) 41 (g36 2 7).toNat ∨ x159 = 0 ∧ ¬ isSg (toks g36) 41 (g36 2 7).toNat) := qg162
                      have B4 := sg_q E3 N4
                      have E4 : EN s0 g162 := by
                        rw [Q4]
                        exact E3
                      have X5 : (g180 2 0, g180 2 1) = ((1 : Int), if (1 : Int) = 1 ∧ g162 4 (g162 2 7).toNat = 1 then g162 5 (g162 2 7).toNat else g162 6 (g162 2 7).toNat) := qg180
                      have E5 : EN s0 g180 := EN_trans E4 (EN_fr rg180 (by decide) (by decide) (by decide))
                      have S4 : sgB (toks s0) 41 (g36 2 7).toNat = false := by
                        rcases B4 with ⟨z, y⟩ | ⟨z, y⟩
                        · exact absurd z (by omega)
                        · exact y
                      rw [Q4] at X5
                      have Y5 := flt_q X5
                      rw [E3.1] at Y5
                      have S1 : sgB (toks s0) 40 (g 2 7).toNat = true := by
                        rcases B1 with ⟨z, y⟩ | ⟨z, y⟩
                        · exact y
                        · exact absurd z (by omega)
                      rw [Q1] at T2
                      have O2 : OPN 0 s0 g26 (frk v99_3) true := APar_open hp (by decide) S1 T2
                      have M3 : SMD 0 s0 g36 (frk v99_3) := OPN_sum O2 (by rcases frk_cases hpr with z | z <;> omega) R3 F3 (by omega) (by omega) (by omega)
                      have K3 : frk v99_3 = 2 := by
                        rcases frk_cases hpr with z | z <;> omega
                      rw [K3] at M3
                      exact SMD_close0 M3 (Or.inl rfl) S4 (by omega) Y5
            · skip
              have E0 : EN s0 g := EN_fr rg (by decide) (by decide) (by decide)
              obtain ⟨Q1, N1⟩ : g18 = g ∧ (x15 = 1 ∧ isSg (toks g) 40 (g 2 7).toNat ∨ x15 = 0 ∧ ¬ isSg (toks g) 40 (g 2 7).toNat) := qg18
              have B1 := sg_q E0 N1
              have E1 : EN s0 g18 := by
                rw [Q1]
                exact E0
              have T2 : g26 = stp g18 := qg26
              have E2 : EN s0 g26 := EN_trans E1 (EN_fr rg26 (by decide) (by decide) (by decide))
              have R3 : RSp 1 g26 x33 g36 := qg36
              have F3 : EN g26 g36 := EN_fr rg36 (by decide) (by decide) (by decide)
              have E3 : EN s0 g36 := EN_trans E2 F3
              have S1 : sgB (toks s0) 40 (g 2 7).toNat = true := by
                rcases B1 with ⟨z, y⟩ | ⟨z, y⟩
                · exact y
                · exact absurd z (by omega)
              rw [Q1] at T2
              have O2 : OPN 0 s0 g26 (frk v99_3) true := APar_open hp (by decide) S1 T2
              exact OPN_sum0 O2 (by rcases frk_cases hpr with z | z <;> omega) R3 (by omega)
      · skip
        refine ⟨fun _ g' => (g' 2 0, g' 2 1) = ((1 : Int), if (1 : Int) = 1 ∧ g18 4 (g18 2 7).toNat = 1 then g18 5 (g18 2 7).toNat else g18 6 (g18 2 7).toNat), ?_, ?_⟩
        · skip
          exact v_1286
        · skip
          intro x187 hx1871 hx1872 g190 rg190 qg190
          have E0 : EN s0 g := EN_fr rg (by decide) (by decide) (by decide)
          obtain ⟨Q1, N1⟩ : g18 = g ∧ (x15 = 1 ∧ isSg (toks g) 40 (g 2 7).toNat ∨ x15 = 0 ∧ ¬ isSg (toks g) 40 (g 2 7).toNat) := qg18
          have B1 := sg_q E0 N1
          have E1 : EN s0 g18 := by
            rw [Q1]
            exact E0
          have X2 : (g190 2 0, g190 2 1) = ((1 : Int), if (1 : Int) = 1 ∧ g18 4 (g18 2 7).toNat = 1 then g18 5 (g18 2 7).toNat else g18 6 (g18 2 7).toNat) := qg190
          have E2 : EN s0 g190 := EN_trans E1 (EN_fr rg190 (by decide) (by decide) (by decide))
          have S1 : sgB (toks s0) 40 (g 2 7).toNat = false := by
            rcases B1 with ⟨z, y⟩ | ⟨z, y⟩
            · exact absurd z (by omega)
            · exact y
          rw [Q1] at X2
          have Y2 := flt_q X2
          rw [E0.1] at Y2
          exact APar_none hp S1 (by omega) Y2
set_option maxHeartbeats 4000000 in
theorem v_1297_c0 {s0 : zF} (hw : OWS s0) (ht : TW s0) : b_1297_c0 s0 (fun v g => RSp 0 s0 v g) := by
  refine ⟨fun n g v4_2 v4_3 => n = (20 * (2000 - g 2 7) + 9).toNat ∧ PRE 0 s0 g ∧ v4_3 ≤ g 2 7, fun n g v17_2 v17_3 v17_4 v17_5 => n = (20 * (2000 - g 2 7) + 8).toNat ∧ PRE 0 s0 g ∧ v17_3 ≤ g 2 7 ∧ v17_5 ≤ g 2 7, fun n g v52_2 v52_3 v52_5 => n = (20 * (2000 - g 2 7) + 7).toNat ∧ POS 0 s0 g ∧ v52_3 ≤ g 2 7 ∧ v52_5 ≤ g 2 7, fun n g v95_2 v95_3 v95_5 s95_0 => n = (20 * (2000 - g 2 7) + 6).toNat ∧ POS 0 s0 g ∧ v95_3 ≤ g 2 7 ∧ v95_5 ≤ g 2 7 ∧ (¬ s95_0 = 0 → sgB (toks s0) 42 (g 2 7).toNat = true ∨ sgB (toks s0) 47 (g 2 7).toNat = true ∨ sgB (toks s0) 37 (g 2 7).toNat = true) ∧ (s95_0 = 0 → (sgB (toks s0) 42 (g 2 7).toNat = false ∧ sgB (toks s0) 47 (g 2 7).toNat = false ∧ sgB (toks s0) 37 (g 2 7).toNat = false)), fun n g v115_2 v115_3 => n = (20 * (2000 - g 2 7) + 5).toNat ∧ POS 0 s0 g ∧ v115_3 ≤ g 2 7 ∧ (sgB (toks s0) 42 (g 2 7).toNat = false ∧ sgB (toks s0) 47 (g 2 7).toNat = false ∧ sgB (toks s0) 37 (g 2 7).toNat = false), fun n g v130_3 => n = (20 * (2000 - g 2 7) + 4).toNat ∧ POS 0 s0 g ∧ v130_3 ≤ g 2 7 ∧ (sgB (toks s0) 42 (g 2 7).toNat = false ∧ sgB (toks s0) 47 (g 2 7).toNat = false ∧ sgB (toks s0) 37 (g 2 7).toNat = false), ?_, ?_, ?_, ?_, ?_, ?_, ?_⟩
  · skip
    exact ⟨_, rfl, PRE_0 ht, by have := TW_b ht; omega⟩
  · intro n g v4_2 v4_3 rg qv4_20 qv4_21 qv4_30 qv4_31 hI
    obtain ⟨hn, hp, h3⟩ := hI
    have hb := TW_b hp.1
    refine ⟨fun h1 => ?_, fun h1 => ?_⟩
    · skip
      exfalso
      omega
    · skip
      exact ⟨_, by omega, rfl, hp, h3, by omega⟩
  · intro n g v17_2 v17_3 v17_4 v17_5 rg qv17_21 qv17_30 qv17_31 qv17_40 qv17_41 qv17_50 qv17_51 hI
    obtain ⟨hn, hp, h3, h5⟩ := hI
    have hb := TW_b hp.1
    refine ⟨fun h2 => ?_, fun h2 => ?_⟩
    · skip
      exfalso
      omega
    · skip
      refine ⟨fun v g' => RPp 0 g v g', ?_, ?_⟩
      · skip
        have E0 : EN s0 g := EN_fr rg (by decide) (by decide) (by decide)
        exact v_1298_c0 (OWS_en hw E0) hp.1
      · skip
        intro x8 hx81 hx82 g11 rg11 qg11
        refine ⟨fun h13 => ?_, fun h13 => ?_⟩
        · skip
          refine ⟨fun h14 => ?_, fun h14 => ?_⟩
          · skip
            intro b15 eb15 fb15
            refine ⟨fun _ => True, ?_, ?_⟩
            · skip
              exact v_515
            · skip
              intro g24 rg24 qg24
              have E0 : EN s0 g := EN_fr rg (by decide) (by decide) (by decide)
              have R1 : RPp 0 g x8 g11 := qg11
              have F1 : EN g g11 := EN_fr rg11 (by decide) (by decide) (by decide)
              have E1 : EN s0 g11 := EN_trans E0 F1
              have Z2 : EN g11 g24 ∧ g24 2 = g11 2 := by
                first
                  | exact EN_put fb15 rg24
              have E2 : EN s0 g24 := EN_trans E1 Z2.1
              obtain ⟨p1, p2⟩ := PRE_part hp R1 F1 (by omega) (by omega) (by omega)
              have p3 := POS_en p1 Z2.1 Z2.2
              have e7 : g24 2 7 = g11 2 7 := by rw [Z2.2]
              exact ⟨_, by omega, rfl, p3, by omega, by omega⟩
          · skip
            have E0 : EN s0 g := EN_fr rg (by decide) (by decide) (by decide)
            have R1 : RPp 0 g x8 g11 := qg11
            have F1 : EN g g11 := EN_fr rg11 (by decide) (by decide) (by decide)
            have E1 : EN s0 g11 := EN_trans E0 F1
            obtain ⟨p1, p2⟩ := PRE_part hp R1 F1 (by omega) (by omega) (by omega)
            exact ⟨_, by omega, rfl, p1, by omega, by omega⟩
        · skip
          have E0 : EN s0 g := EN_fr rg (by decide) (by decide) (by decide)
          have R1 : RPp 0 g x8 g11 := qg11
          have F1 : EN g g11 := EN_fr rg11 (by decide) (by decide) (by decide)
          have E1 : EN s0 g11 := EN_trans E0 F1
          exact PRE_part0 hp R1 (by omega)
  · intro n g v52_2 v52_3 v52_5 rg qv52_21 qv52_30 qv52_31 qv52_50 qv52_51 hI
    obtain ⟨hn, hp, h3, h5⟩ := hI
    have hb := TW_b hp.1
    refine ⟨fun v g' => g' = g ∧ (v = 1 ∧ isSg (toks g) 42 (g 2 7).toNat ∨ v = 0 ∧ ¬ isSg (toks g) 42 (g 2 7).toNat), ?_, ?_⟩
    · skip
      exact v_1299
    · skip
      intro x31 hx311 hx312 g34 rg34 qg34
      refine ⟨fun h36 => ?_, fun h36 => ?_⟩
      · skip
        have E0 : EN s0 g := EN_fr rg (by decide) (by decide) (by decide)
        obtain ⟨Q1, N1⟩ : g34 = g ∧ (x31 = 1 ∧ isSg (toks g) 42 (g 2 7).toNat ∨ x31 = 0 ∧ ¬ isSg (toks g) 42 (g 2 7).toNat) := qg34
        have B1 := sg_q E0 N1
        have E1 : EN s0 g34 := by
          rw [Q1]
          exact E0
        have S1 : sgB (toks s0) 42 (g 2 7).toNat = true := by
          rcases B1 with ⟨z, y⟩ | ⟨z, y⟩
          · exact y
          · exact absurd z (by omega)
        have e : g34 = g := Q1
        rw [e]
        exact ⟨_, by omega, rfl, hp, h3, h5, fun _ => Or.inl S1, fun z => absurd z (by decide)⟩
      · skip
        refine ⟨fun v g' => g' = g34 ∧ (v = 1 ∧ isSg (toks g34) 47 (g34 2 7).toNat ∨ v = 0 ∧ ¬ isSg (toks g34) 47 (g34 2 7).toNat), ?_, ?_⟩
        · skip
          exact v_1299
        · skip
          intro x42 hx421 hx422 g45 rg45 qg45
          refine ⟨fun h47 => ?_, fun h47 => ?_⟩
          · skip
            have E0 : EN s0 g := EN_fr rg (by decide) (by decide) (by decide)
            obtain ⟨Q1, N1⟩ : g34 = g ∧ (x31 = 1 ∧ isSg (toks g) 42 (g 2 7).toNat ∨ x31 = 0 ∧ ¬ isSg (toks g) 42 (g 2 7).toNat) := qg34
            have B1 := sg_q E0 N1
            have E1 : EN s0 g34 := by
              rw [Q1]
              exact E0
            obtain ⟨Q2, N2⟩ : g45 = g34 ∧ (x42 = 1 ∧ isSg (toks g34) 47 (g34 2 7).toNat ∨ x42 = 0 ∧ ¬ isSg (toks g34) 47 (g34 2 7).toNat) := qg45
            have B2 := sg_q E1 N2
            have E2 : EN s0 g45 := by
              rw [Q2]
              exact E1
            have S1 : sgB (toks s0) 42 (g 2 7).toNat = false := by
              rcases B1 with ⟨z, y⟩ | ⟨z, y⟩
              · exact absurd z (by omega)
              · exact y
            have S2 : sgB (toks s0) 47 (g34 2 7).toNat = true := by
              rcases B2 with ⟨z, y⟩ | ⟨z, y⟩
              · exact y
              · exact absurd z (by omega)
            rw [Q1] at S2
            have e : g45 = g := Q2.trans Q1
            rw [e]
            exact ⟨_, by omega, rfl, hp, h3, h5, fun _ => Or.inr (Or.inl S2), fun z => absurd z (by decide)⟩
          · skip
            refine ⟨fun v g' => g' = g45 ∧ (v = 1 ∧ isSg (toks g45) 37 (g45 2 7).toNat ∨ v = 0 ∧ ¬ isSg (toks g45) 37 (g45 2 7).toNat), ?_, ?_⟩
            · skip
              exact v_1299
            · skip
              intro x53 hx531 hx532 g56 rg56 qg56
              refine ⟨fun h58 => ?_, fun h58 => ?_⟩
              · skip
                have E0 : EN s0 g := EN_fr rg (by decide) (by decide) (by decide)
                obtain ⟨Q1, N1⟩ : g34 = g ∧ (x31 = 1 ∧ isSg (toks g) 42 (g 2 7).toNat ∨ x31 = 0 ∧ ¬ isSg (toks g) 42 (g 2 7).toNat) := qg34
                have B1 := sg_q E0 N1
                have E1 : EN s0 g34 := by
                  rw [Q1]
                  exact E0
                obtain ⟨Q2, N2⟩ : g45 = g34 ∧ (x42 = 1 ∧ isSg (toks g34) 47 (g34 2 7).toNat ∨ x42 = 0 ∧ ¬ isSg (toks g34) 47 (g34 2 7).toNat) := qg45
                have B2 := sg_q E1 N2
                have E2 : EN s0 g45 := by
                  rw [Q2]
                  exact E1
                obtain ⟨Q3, N3⟩ : g56 = g45 ∧ (x53 = 1 ∧ isSg (toks g45) 37 (g45 2 7).toNat ∨ x53 = 0 ∧ ¬ isSg (toks g45) 37 (g45 2 7).toNat) := qg56
                have B3 := sg_q E2 N3
                have E3 : EN s0 g56 := by
                  rw [Q3]
                  exact E2
                have S1 : sgB (toks s0) 42 (g 2 7).toNat = false := by
                  rcases B1 with ⟨z, y⟩ | ⟨z, y⟩
                  · exact absurd z (by omega)
                  · exact y
                have S2 : sgB (toks s0) 47 (g34 2 7).toNat = false := by
                  rcases B2 with ⟨z, y⟩ | ⟨z, y⟩
                  · exact absurd z (by omega)
                  · exact y
                have S3 : sgB (toks s0) 37 (g45 2 7).toNat = true := by
                  rcases B3 with ⟨z, y⟩ | ⟨z, y⟩
                  · exact y
                  · exact absurd z (by omega)
                rw [Q1] at S2
                rw [Q2, Q1] at S3
                have e : g56 = g := Q3.trans (Q2.trans Q1)
                rw [e]
                exact ⟨_, by omega, rfl, hp, h3, h5, fun _ => Or.inr (Or.inr S3), fun z => absurd z (by decide)⟩
              · skip
                have E0 : EN s0 g := EN_fr rg (by decide) (by decide) (by decide)
                obtain ⟨Q1, N1⟩ : g34 = g ∧ (x31 = 1 ∧ isSg (toks g) 42 (g 2 7).toNat ∨ x31 = 0 ∧ ¬ isSg (toks g) 42 (g 2 7).toNat) := qg34
                have B1 := sg_q E0 N1
                have E1 : EN s0 g34 := by
                  rw [Q1]
                  exact E0
                obtain ⟨Q2, N2⟩ : g45 = g34 ∧ (x42 = 1 ∧ isSg (toks g34) 47 (g34 2 7).toNat ∨ x42 = 0 ∧ ¬ isSg (toks g34) 47 (g34 2 7).toNat) := qg45
                have B2 := sg_q E1 N2
                have E2 : EN s0 g45 := by
                  rw [Q2]
                  exact E1
                obtain ⟨Q3, N3⟩ : g56 = g45 ∧ (x53 = 1 ∧ isSg (toks g45) 37 (g45 2 7).toNat ∨ x53 = 0 ∧ ¬ isSg (toks g45) 37 (g45 2 7).toNat) := qg56
                have B3 := sg_q E2 N3
                have E3 : EN s0 g56 := by
                  rw [Q3]
                  exact E2
                have S1 : sgB (toks s0) 42 (g 2 7).toNat = false := by
                  rcases B1 with ⟨z, y⟩ | ⟨z, y⟩
                  · exact absurd z (by omega)
                  · exact y
                have S2 : sgB (toks s0) 47 (g34 2 7).toNat = false := by
                  rcases B2 with ⟨z, y⟩ | ⟨z, y⟩
                  · exact absurd z (by omega)
                  · exact y
                have S3 : sgB (toks s0) 37 (g45 2 7).toNat = false := by
                  rcases B3 with ⟨z, y⟩ | ⟨z, y⟩
                  · exact absurd z (by omega)
                  · exact y
                rw [Q1] at S2
                rw [Q2, Q1] at S3
                have e : g56 = g := Q3.trans (Q2.trans Q1)
                rw [e]
                exact ⟨_, by omega, rfl, hp, h3, h5, fun z => absurd rfl z, fun _ => ⟨S1, S2, S3⟩⟩
  · intro n g v95_2 v95_3 v95_5 s95_0 rg qv95_21 qv95_30 qv95_31 qv95_50 qv95_51 qs95_00 qs95_01 hI
    obtain ⟨hn, hp, h3, h5, hs1, hs0⟩ := hI
    have hb := TW_b hp.1
    refine ⟨fun h59 => ?_, fun h59 => ?_⟩
    · skip
      refine ⟨fun g' => g' = stp g, ?_, ?_⟩
      · skip
        exact v_1289
      · skip
        intro g65 rg65 qg65
        intro x67 ex67
        obtain ⟨p1, p2⟩ := POS_op hp (opB_3 (hs1 (by omega))) (qg65 : g65 = stp g)
        exact ⟨_, by omega, rfl, p1, by omega, by omega⟩
    · skip
      exact ⟨_, by omega, rfl, hp, h3, hs0 (by omega)⟩
  · intro n g v115_2 v115_3 rg qv115_21 qv115_30 qv115_31 hI
    obtain ⟨hn, hp, h3, hs0⟩ := hI
    have hb := TW_b hp.1
    refine ⟨fun h69 => ?_, fun h69 => ?_⟩
    · skip
      intro b70 eb70 fb70
      refine ⟨fun _ => True, ?_, ?_⟩
      · skip
        exact v_515
      · skip
        intro g79 rg79 qg79
        have E0 : EN s0 g := EN_fr rg (by decide) (by decide) (by decide)
        have Z1 : EN g g79 ∧ g79 2 = g 2 := by
          first
            | exact EN_put fb70 rg79
        have E1 : EN s0 g79 := EN_trans E0 Z1.1
        have e7 : g79 2 7 = g 2 7 := by rw [Z1.2]
        exact ⟨_, by omega, rfl, POS_en hp Z1.1 Z1.2, by omega, by rw [e7]; exact hs0⟩
    · skip
      exact ⟨_, by omega, rfl, hp, h3, hs0⟩
  · intro n g v130_3 rg qv130_30 qv130_31 hI
    obtain ⟨hn, hp, h3, hs0⟩ := hI
    have hb := TW_b hp.1
    refine ⟨fun v g' => g' = g ∧ (v = 1 ∧ isSg (toks g) 43 (g 2 7).toNat ∨ v = 0 ∧ ¬ isSg (toks g) 43 (g 2 7).toNat), ?_, ?_⟩
    · skip
      exact v_1299
    · skip
      intro x86 hx861 hx862 g89 rg89 qg89
      refine ⟨fun h91 => ?_, fun h91 => ?_⟩
      · skip
        refine ⟨fun g' => g' = stp g89, ?_, ?_⟩
        · skip
          exact v_1289
        · skip
          intro g97 rg97 qg97
          intro x99 ex99
          have E0 : EN s0 g := EN_fr rg (by decide) (by decide) (by decide)
          obtain ⟨Q1, N1⟩ : g89 = g ∧ (x86 = 1 ∧ isSg (toks g) 43 (g 2 7).toNat ∨ x86 = 0 ∧ ¬ isSg (toks g) 43 (g 2 7).toNat) := qg89
          have B1 := sg_q E0 N1
          have E1 : EN s0 g89 := by
            rw [Q1]
            exact E0
          have T2 : g97 = stp g89 := qg97
          have E2 : EN s0 g97 := EN_trans E1 (EN_fr rg97 (by decide) (by decide) (by decide))
          have S1 : sgB (toks s0) 43 (g 2 7).toNat = true := by
            rcases B1 with ⟨z, y⟩ | ⟨z, y⟩
            · exact y
            · exact absurd z (by omega)
          rw [Q1] at T2
          obtain ⟨p1, p2⟩ := POS_op hp (opB_2 (Or.inl S1)) T2
          exact ⟨_, by omega, rfl, p1, by omega⟩
      · skip
        refine ⟨fun v g' => g' = g89 ∧ (v = 1 ∧ isSg (toks g89) 45 (g89 2 7).toNat ∨ v = 0 ∧ ¬ isSg (toks g89) 45 (g89 2 7).toNat), ?_, ?_⟩
        · skip
          exact v_1299
        · skip
          intro x106 hx1061 hx1062 g109 rg109 qg109
          refine ⟨fun h111 => ?_, fun h111 => ?_⟩
          · skip
            refine ⟨fun g' => g' = stp g109, ?_, ?_⟩
            · skip
              exact v_1289
            · skip
              intro g117 rg117 qg117
              intro x119 ex119
              have E0 : EN s0 g := EN_fr rg (by decide) (by decide) (by decide)
              obtain ⟨Q1, N1⟩ : g89 = g ∧ (x86 = 1 ∧ isSg (toks g) 43 (g 2 7).toNat ∨ x86 = 0 ∧ ¬ isSg (toks g) 43 (g 2 7).toNat) := qg89
              have B1 := sg_q E0 N1
              have E1 : EN s0 g89 := by
                rw [Q1]
                exact E0
              obtain ⟨Q2, N2⟩ : g109 = g89 ∧ (x106 = 1 ∧ isSg (toks g89) 45 (g89 2 7).toNat ∨ x106 = 0 ∧ ¬ isSg (toks g89) 45 (g89 2 7).toNat) := qg109
              have B2 := sg_q E1 N2
              have E2 : EN s0 g109 := by
                rw [Q2]
                exact E1
              have T3 : g117 = stp g109 := qg117
              have E3 : EN s0 g117 := EN_trans E2 (EN_fr rg117 (by decide) (by decide) (by decide))
              have S2 : sgB (toks s0) 45 (g89 2 7).toNat = true := by
                rcases B2 with ⟨z, y⟩ | ⟨z, y⟩
                · exact y
                · exact absurd z (by omega)
              rw [Q1] at S2
              rw [Q2, Q1] at T3
              obtain ⟨p1, p2⟩ := POS_op hp (opB_2 (Or.inr S2)) T3
              exact ⟨_, by omega, rfl, p1, by omega⟩
          · skip
            have E0 : EN s0 g := EN_fr rg (by decide) (by decide) (by decide)
            obtain ⟨Q1, N1⟩ : g89 = g ∧ (x86 = 1 ∧ isSg (toks g) 43 (g 2 7).toNat ∨ x86 = 0 ∧ ¬ isSg (toks g) 43 (g 2 7).toNat) := qg89
            have B1 := sg_q E0 N1
            have E1 : EN s0 g89 := by
              rw [Q1]
              exact E0
            obtain ⟨Q2, N2⟩ : g109 = g89 ∧ (x106 = 1 ∧ isSg (toks g89) 45 (g89 2 7).toNat ∨ x106 = 0 ∧ ¬ isSg (toks g89) 45 (g89 2 7).toNat) := qg109
            have B2 := sg_q E1 N2
            have E2 : EN s0 g109 := by
              rw [Q2]
              exact E1
            have S1 : sgB (toks s0) 43 (g 2 7).toNat = false := by
              rcases B1 with ⟨z, y⟩ | ⟨z, y⟩
              · exact absurd z (by omega)
              · exact y
            have S2 : sgB (toks s0) 45 (g89 2 7).toNat = false := by
              rcases B2 with ⟨z, y⟩ | ⟨z, y⟩
              · exact absurd z (by omega)
              · exact y
            rw [Q1] at S2
            have e : g109 = g := Q2.trans Q1
            show RSp 0 s0 1 g109
            rw [e]
            exact POS_end hp (opB_0 S1 S2 hs0)
set_option maxHeartbeats 4000000 in
theorem v_1301_c8 {s0 : zF} (hw : OWS s0) (ht : TW s0) : b_1301_c8 s0 (fun v g => RFp 8 s0 v g) := by
  refine ⟨fun n g v2_2 => n = (20 * (2000 - g 2 7) + 9).toNat ∧ FPR 8 s0 g ∧ v2_2 ≤ g 2 7, fun n g v28_2 => n = (20 * (2000 - g 2 7) + 5).toNat ∧ FPR 8 s0 g ∧ tokI (toks s0) (g 2 7).toNat ≠ 23, fun n g v167_2 s167_0 => n = (20 * (2000 - g 2 7) + 3).toNat ∧ CM1 8 s0 g ∧ (¬ s167_0 = 0 → cmB (toks s0) (g 2 7).toNat = true) ∧ (s167_0 = 0 → cmB (toks s0) (g 2 7).toNat = false), ?_, ?_, ?_, ?_⟩
  · skip
    exact ⟨_, rfl, FPR_0 ht, by have := TW_b ht; omega⟩
  · intro n g v2_2 rg qv2_20 qv2_21 hI
    obtain ⟨hn, hp, h3⟩ := hI
    have hb := TW_b hp.1
    refine ⟨fun h1 => ?_, fun h1 => ?_⟩
    · skip
      exfalso
      omega
    · skip
      refine ⟨fun v g' => g' = g ∧ v = tokI (toks g) (g 2 7).toNat, ?_, ?_⟩
      · skip
        have E0 : EN s0 g := EN_fr rg (by decide) (by decide) (by decide)
        exact v_1287 (OWS_en hw E0)
      · skip
        intro x7 hx71 hx72 g10 rg10 qg10
        refine ⟨fun h12 => ?_, fun h12 => ?_⟩
        · skip
          have E0 : EN s0 g := EN_fr rg (by decide) (by decide) (by decide)
          obtain ⟨Q1, N1⟩ : g10 = g ∧ x7 = tokI (toks g) (g 2 7).toNat := qg10
          rw [E0.1] at N1
          have E1 : EN s0 g10 := by
            rw [Q1]
            exact E0
          rw [Q1]
          exact ⟨_, by omega, rfl, hp, by omega⟩
        · skip
          refine ⟨fun g' => g' = stp g10, ?_, ?_⟩
          · skip
            exact v_1289
          · skip
            intro g18 rg18 qg18
            intro x20 ex20
            have E0 : EN s0 g := EN_fr rg (by decide) (by decide) (by decide)
            obtain ⟨Q1, N1⟩ : g10 = g ∧ x7 = tokI (toks g) (g 2 7).toNat := qg10
            rw [E0.1] at N1
            have E1 : EN s0 g10 := by
              rw [Q1]
              exact E0
            have T2 : g18 = stp g10 := qg18
            have E2 : EN s0 g18 := EN_trans E1 (EN_fr rg18 (by decide) (by decide) (by decide))
            rw [Q1] at T2
            obtain ⟨p1, p2⟩ := FPR_not hp (by omega) T2
            exact ⟨_, by omega, rfl, p1, by omega⟩
  · intro n g v28_2 rg qv28_20 qv28_21 hI
    obtain ⟨hn, hp, h23⟩ := hI
    have hb := TW_b hp.1
    refine ⟨fun v g' => g' = g ∧ (v = 1 ∧ isSg (toks g) 91 (g 2 7).toNat ∨ v = 0 ∧ ¬ isSg (toks g) 91 (g 2 7).toNat), ?_, ?_⟩
    · skip
      exact v_1299
    · skip
      intro x27 hx271 hx272 g30 rg30 qg30
      refine ⟨fun h32 => ?_, fun h32 => ?_⟩
      · skip
        refine ⟨fun _ g' => (g' 2 0, g' 2 1) = ((5 : Int), if (5 : Int) = 1 ∧ g30 4 (g30 2 7).toNat = 1 then g30 5 (g30 2 7).toNat else g30 6 (g30 2 7).toNat), ?_, ?_⟩
        · skip
          exact v_1286
        · skip
          intro x38 hx381 hx382 g41 rg41 qg41
          have E0 : EN s0 g := EN_fr rg (by decide) (by decide) (by decide)
          obtain ⟨Q1, N1⟩ : g30 = g ∧ (x27 = 1 ∧ isSg (toks g) 91 (g 2 7).toNat ∨ x27 = 0 ∧ ¬ isSg (toks g) 91 (g 2 7).toNat) := qg30
          have B1 := sg_q E0 N1
          have E1 : EN s0 g30 := by
            rw [Q1]
            exact E0
          have X2 : (g41 2 0, g41 2 1) = ((5 : Int), if (5 : Int) = 1 ∧ g30 4 (g30 2 7).toNat = 1 then g30 5 (g30 2 7).toNat else g30 6 (g30 2 7).toNat) := qg41
          have E2 : EN s0 g41 := EN_trans E1 (EN_fr rg41 (by decide) (by decide) (by decide))
          have S1 : sgB (toks s0) 91 (g 2 7).toNat = true := by
            rcases B1 with ⟨z, y⟩ | ⟨z, y⟩
            · exact y
            · exact absurd z (by omega)
          rw [Q1] at X2
          exact FPR_sq8 hp rfl S1 (by omega) (els_q (by decide) X2)
      · skip
        refine ⟨fun v g' => g' = g30 ∧ v = tokI (toks g30) (g30 2 7).toNat, ?_, ?_⟩
        · skip
          have E0 : EN s0 g := EN_fr rg (by decide) (by decide) (by decide)
          obtain ⟨Q1, N1⟩ : g30 = g ∧ (x27 = 1 ∧ isSg (toks g) 91 (g 2 7).toNat ∨ x27 = 0 ∧ ¬ isSg (toks g) 91 (g 2 7).toNat) := qg30
          have B1 := sg_q E0 N1
          have E1 : EN s0 g30 := by
            rw [Q1]
            exact E0
          exact v_1287 (OWS_en hw E1)
        · skip
          intro x48 hx481 hx482 g51 rg51 qg51
          refine ⟨fun h53 => ?_, fun h53 => ?_⟩
          · skip
            refine ⟨fun v g' => RSp 8 g51 v g', ?_, ?_⟩
            · skip
              have E0 : EN s0 g := EN_fr rg (by decide) (by decide) (by decide)
              obtain ⟨Q1, N1⟩ : g30 = g ∧ (x27 = 1 ∧ isSg (toks g) 91 (g 2 7).toNat ∨ x27 = 0 ∧ ¬ isSg (toks g) 91 (g 2 7).toNat) := qg30
              have B1 := sg_q E0 N1
              have E1 : EN s0 g30 := by
                rw [Q1]
                exact E0
              obtain ⟨Q2, N2⟩ : g51 = g30 ∧ x48 = tokI (toks g30) (g30 2 7).toNat := qg51
              rw [E1.1] at N2
              have E2 : EN s0 g51 := by
                rw [Q2]
                exact E1
              have S1 : sgB (toks s0) 91 (g 2 7).toNat = false := by
                rcases B1 with ⟨z, y⟩ | ⟨z, y⟩
                · exact absurd z (by omega)
                · exact y
              have e2 : g51 = g := Q2.trans Q1
              have D2 : g51 2 7 = g 2 7 := by rw [e2]
              rw [Q1] at N2
              have h24 : tokI (toks s0) (g 2 7).toNat ≠ 24 := by omega
              exact v_1297_c8 (OWS_en hw E2) (by rw [e2]; exact hp.1)
            · skip
              intro x59 hx591 hx592 g62 rg62 qg62
              refine ⟨fun h64 => ?_, fun h64 => ?_⟩
              · skip
                refine ⟨fun v g' => g' = g62 ∧ (v = 1 ∧ isSg (toks g62) 60 (g62 2 7).toNat ∨ v = 0 ∧ ¬ isSg (toks g62) 60 (g62 2 7).toNat), ?_, ?_⟩
                · skip
                  exact v_1299
                · skip
                  intro x70 hx701 hx702 g73 rg73 qg73
                  refine ⟨fun h75 => ?_, fun h75 => ?_⟩
                  · skip
                    have E0 : EN s0 g := EN_fr rg (by decide) (by decide) (by decide)
                    obtain ⟨Q1, N1⟩ : g30 = g ∧ (x27 = 1 ∧ isSg (toks g) 91 (g 2 7).toNat ∨ x27 = 0 ∧ ¬ isSg (toks g) 91 (g 2 7).toNat) := qg30
                    have B1 := sg_q E0 N1
                    have E1 : EN s0 g30 := by
                      rw [Q1]
                      exact E0
                    obtain ⟨Q2, N2⟩ : g51 = g30 ∧ x48 = tokI (toks g30) (g30 2 7).toNat := qg51
                    rw [E1.1] at N2
                    have E2 : EN s0 g51 := by
                      rw [Q2]
                      exact E1
                    have R3 : RSp 8 g51 x59 g62 := qg62
                    have F3 : EN g51 g62 := EN_fr rg62 (by decide) (by decide) (by decide)
                    have E3 : EN s0 g62 := EN_trans E2 F3
                    obtain ⟨Q4, N4⟩ : g73 = g62 ∧ (x70 = 1 ∧ isSg (toks g62) 60 (g62 2 7).toNat ∨ x70 = 0 ∧ ¬ isSg (toks g62) 60 (g62 2 7).toNat) := qg73
                    have B4 := sg_q E3 N4
                    have E4 : EN s0 g73 := by
                      rw [Q4]
                      exact E3
                    have S1 : sgB (toks s0) 91 (g 2 7).toNat = false := by
                      rcases B1 with ⟨z, y⟩ | ⟨z, y⟩
                      · exact absurd z (by omega)
                      · exact y
                    have S4 : sgB (toks s0) 60 (g62 2 7).toNat = true := by
                      rcases B4 with ⟨z, y⟩ | ⟨z, y⟩
                      · exact y
                      · exact absurd z (by omega)
                    have e2 : g51 = g := Q2.trans Q1
                    have D2 : g51 2 7 = g 2 7 := by rw [e2]
                    rw [Q1] at N2
                    have h24 : tokI (toks s0) (g 2 7).toNat ≠ 24 := by omega
                    rw [e2] at R3 F3
                    have M3 : CM1 8 s0 g62 := FPR_sum hp h23 h24 S1 R3 F3 (by omega) (by omega) (by omega)
                    have hb3 := TW_b M3.1
                    have lt3 : g 2 7 < g62 2 7 := (R3.1 (by omega)).1
                    rw [Q4]
                    exact ⟨_, by omega, rfl, M3, fun _ => cmB_3 (Or.inl S4), fun z => absurd z (by decide)⟩
                  · skip
                    refine ⟨fun v g' => g' = g73 ∧ (v = 1 ∧ isSg (toks g73) 62 (g73 2 7).toNat ∨ v = 0 ∧ ¬ isSg (toks g73) 62 (g73 2 7).toNat), ?_, ?_⟩
                    · skip
                      exact v_1299
                    · skip
                      intro x81 hx811 hx812 g84 rg84 qg84
                      refine ⟨fun h86 => ?_, fun h86 => ?_⟩
                      · skip
                        have E0 : EN s0 g := EN_fr rg (by decide) (by decide) (by decide)
                        obtain ⟨Q1, N1⟩ : g30 = g ∧ (x27 = 1 ∧ isSg (toks g) 91 (g 2 7).toNat ∨ x27 = 0 ∧ ¬ isSg (toks g) 91 (g 2 7).toNat) := qg30
                        have B1 := sg_q E0 N1
                        have E1 : EN s0 g30 := by
                          rw [Q1]
                          exact E0
                        obtain ⟨Q2, N2⟩ : g51 = g30 ∧ x48 = tokI (toks g30) (g30 2 7).toNat := qg51
                        rw [E1.1] at N2
                        have E2 : EN s0 g51 := by
                          rw [Q2]
                          exact E1
                        have R3 : RSp 8 g51 x59 g62 := qg62
                        have F3 : EN g51 g62 := EN_fr rg62 (by decide) (by decide) (by decide)
                        have E3 : EN s0 g62 := EN_trans E2 F3
                        obtain ⟨Q4, N4⟩ : g73 = g62 ∧ (x70 = 1 ∧ isSg (toks g62) 60 (g62 2 7).toNat ∨ x70 = 0 ∧ ¬ isSg (toks g62) 60 (g62 2 7).toNat) := qg73
                        have B4 := sg_q E3 N4
                        have E4 : EN s0 g73 := by
                          rw [Q4]
                          exact E3
                        obtain ⟨Q5, N5⟩ : g84 = g73 ∧ (x81 = 1 ∧ isSg (toks g73) 62 (g73 2 7).toNat ∨ x81 = 0 ∧ ¬ isSg (toks g73) 62 (g73 2 7).toNat) := qg84
                        have B5 := sg_q E4 N5
                        have E5 : EN s0 g84 := by
                          rw [Q5]
                          exact E4
                        have S1 : sgB (toks s0) 91 (g 2 7).toNat = false := by
                          rcases B1 with ⟨z, y⟩ | ⟨z, y⟩
                          · exact absurd z (by omega)
                          · exact y
                        have S4 : sgB (toks s0) 60 (g62 2 7).toNat = false := by
                          rcases B4 with ⟨z, y⟩ | ⟨z, y⟩
                          · exact absurd z (by omega)
                          · exact y
                        have S5 : sgB (toks s0) 62 (g73 2 7).toNat = true := by
                          rcases B5 with ⟨z, y⟩ | ⟨z, y⟩
                          · exact y
                          · exact absurd z (by omega)
                        have e2 : g51 = g := Q2.trans Q1
                        have D2 : g51 2 7 = g 2 7 := by rw [e2]
                        rw [Q1] at N2
                        have h24 : tokI (toks s0) (g 2 7).toNat ≠ 24 := by omega
                        rw [e2] at R3 F3
                        have M3 : CM1 8 s0 g62 := FPR_sum hp h23 h24 S1 R3 F3 (by omega) (by omega) (by omega)
                        have hb3 := TW_b M3.1
                        have lt3 : g 2 7 < g62 2 7 := (R3.1 (by omega)).1
                        rw [Q4] at S5
                        rw [Q5, Q4]
                        exact ⟨_, by omega, rfl, M3, fun _ => cmB_3 (Or.inr (Or.inl S5)), fun z => absurd z (by decide)⟩
                      · skip
                        refine ⟨fun v g' => g' = g84 ∧ (v = 1 ∧ isSg (toks g84) 61 (g84 2 7).toNat ∨ v = 0 ∧ ¬ isSg (toks g84) 61 (g84 2 7).toNat), ?_, ?_⟩
                        · skip
                          exact v_1299
                        · skip
                          intro x92 hx921 hx922 g95 rg95 qg95
                          refine ⟨fun h97 => ?_, fun h97 => ?_⟩
                          · skip
                            have E0 : EN s0 g := EN_fr rg (by decide) (by decide) (by decide)
                            obtain ⟨Q1, N1⟩ : g30 = g ∧ (x27 = 1 ∧ isSg (toks g) 91 (g 2 7).toNat ∨ x27 = 0 ∧ ¬ isSg (toks g) 91 (g 2 7).toNat) := qg30
                            have B1 := sg_q E0 N1
                            have E1 : EN s0 g30 := by
                              rw [Q1]
                              exact E0
                            obtain ⟨Q2, N2⟩ : g51 = g30 ∧ x48 = tokI (toks g30) (g30 2 7).toNat := qg51
                            rw [E1.1] at N2
                            have E2 : EN s0 g51 := by
                              rw [Q2]
                              exact E1
                            have R3 : RSp 8 g51 x59 g62 := qg62
                            have F3 : EN g51 g62 := EN_fr rg62 (by decide) (by decide) (by decide)
                            have E3 : EN s0 g62 := EN_trans E2 F3
                            obtain ⟨Q4, N4⟩ : g73 = g62 ∧ (x70 = 1 ∧ isSg (toks g62) 60 (g62 2 7).toNat ∨ x70 = 0 ∧ ¬ isSg (toks g62) 60 (g62 2 7).toNat) := qg73
                            have B4 := sg_q E3 N4
                            have E4 : EN s0 g73 := by
                              rw [Q4]
                              exact E3
                            obtain ⟨Q5, N5⟩ : g84 = g73 ∧ (x81 = 1 ∧ isSg (toks g73) 62 (g73 2 7).toNat ∨ x81 = 0 ∧ ¬ isSg (toks g73) 62 (g73 2 7).toNat) := qg84
                            have B5 := sg_q E4 N5
                            have E5 : EN s0 g84 := by
                              rw [Q5]
                              exact E4
                            obtain ⟨Q6, N6⟩ : g95 = g84 ∧ (x92 = 1 ∧ isSg (toks g84) 61 (g84 2 7).toNat ∨ x92 = 0 ∧ ¬ isSg (toks g84) 61 (g84 2 7).toNat) := qg95
                            have B6 := sg_q E5 N6
                            have E6 : EN s0 g95 := by
                              rw [Q6]
                              exact E5
                            have S1 : sgB (toks s0) 91 (g 2 7).toNat = false := by
                              rcases B1 with ⟨z, y⟩ | ⟨z, y⟩
                              · exact absurd z (by omega)
                              · exact y
                            have S4 : sgB (toks s0) 60 (g62 2 7).toNat = false := by
                              rcases B4 with ⟨z, y⟩ | ⟨z, y⟩
                              · exact absurd z (by omega)
                              · exact y
                            have S5 : sgB (toks s0) 62 (g73 2 7).toNat = false := by
                              rcases B5 with ⟨z, y⟩ | ⟨z, y⟩
                              · exact absurd z (by omega)
                              · exact y
                            have S6 : sgB (toks s0) 61 (g84 2 7).toNat = true := by
                              rcases B6 with ⟨z, y⟩ | ⟨z, y⟩
                              · exact y
                              · exact absurd z (by omega)
                            have e2 : g51 = g := Q2.trans Q1
                            have D2 : g51 2 7 = g 2 7 := by rw [e2]
                            rw [Q1] at N2
                            have h24 : tokI (toks s0) (g 2 7).toNat ≠ 24 := by omega
                            rw [e2] at R3 F3
                            have M3 : CM1 8 s0 g62 := FPR_sum hp h23 h24 S1 R3 F3 (by omega) (by omega) (by omega)
                            have hb3 := TW_b M3.1
                            have lt3 : g 2 7 < g62 2 7 := (R3.1 (by omega)).1
                            rw [Q4] at S5
                            rw [Q5, Q4] at S6
                            rw [Q6, Q5, Q4]
                            exact ⟨_, by omega, rfl, M3, fun _ => cmB_3 (Or.inr (Or.inr S6)), fun z => absurd z (by decide)⟩
                          · skip
                            have E0 : EN s0 g := EN_fr rg (by decide) (by decide) (by decide)
                            obtain ⟨Q1, N1⟩ : g30 = g ∧ (x27 = 1 ∧ isSg (toks g) 91 (g 2 7).toNat ∨ x27 = 0 ∧ ¬ isSg (toks g) 91 (g 2 7).toNat) := qg30
                            have B1 := sg_q E0 N1
                            have E1 : EN s0 g30 := by
                              rw [Q1]
                              exact E0
                            obtain ⟨Q2, N2⟩ : g51 = g30 ∧ x48 = tokI (toks g30) (g30 2 7).toNat := qg51
                            rw [E1.1] at N2
                            have E2 : EN s0 g51 := by
                              rw [Q2]
                              exact E1
                            have R3 : RSp 8 g51 x59 g62 := qg62
                            have F3 : EN g51 g62 := EN_fr rg62 (by decide) (by decide) (by decide)
                            have E3 : EN s0 g62 := EN_trans E2 F3
                            obtain ⟨Q4, N4⟩ : g73 = g62 ∧ (x70 = 1 ∧ isSg (toks g62) 60 (g62 2 7).toNat ∨ x70 = 0 ∧ ¬ isSg (toks g62) 60 (g62 2 7).toNat) := qg73
                            have B4 := sg_q E3 N4
                            have E4 : EN s0 g73 := by
                              rw [Q4]
                              exact E3
                            obtain ⟨Q5, N5⟩ : g84 = g73 ∧ (x81 = 1 ∧ isSg (toks g73) 62 (g73 2 7).toNat ∨ x81 = 0 ∧ ¬ isSg (toks g73) 62 (g73 2 7).toNat) := qg84
                            have B5 := sg_q E4 N5
                            have E5 : EN s0 g84 := by
                              rw [Q5]
                              exact E4
                            obtain ⟨Q6, N6⟩ : g95 = g84 ∧ (x92 = 1 ∧ isSg (toks g84) 61 (g84 2 7).toNat ∨ x92 = 0 ∧ ¬ isSg (toks g84) 61 (g84 2 7).toNat) := qg95
                            have B6 := sg_q E5 N6
                            have E6 : EN s0 g95 := by
                              rw [Q6]
                              exact E5
                            have S1 : sgB (toks s0) 91 (g 2 7).toNat = false := by
                              rcases B1 with ⟨z, y⟩ | ⟨z, y⟩
                              · exact absurd z (by omega)
                              · exact y
                            have S4 : sgB (toks s0) 60 (g62 2 7).toNat = false := by
                              rcases B4 with ⟨z, y⟩ | ⟨z, y⟩
                              · exact absurd z (by omega)
                              · exact y
                            have S5 : sgB (toks s0) 62 (g73 2 7).toNat = false := by
                              rcases B5 with ⟨z, y⟩ | ⟨z, y⟩
                              · exact absurd z (by omega)
                              · exact y
                            have S6 : sgB (toks s0) 61 (g84 2 7).toNat = false := by
                              rcases B6 with ⟨z, y⟩ | ⟨z, y⟩
                              · exact absurd z (by omega)
                              · exact y
                            have e2 : g51 = g := Q2.trans Q1
                            have D2 : g51 2 7 = g 2 7 := by rw [e2]
                            rw [Q1] at N2
                            have h24 : tokI (toks s0) (g 2 7).toNat ≠ 24 := by omega
                            rw [e2] at R3 F3
                            have M3 : CM1 8 s0 g62 := FPR_sum hp h23 h24 S1 R3 F3 (by omega) (by omega) (by omega)
                            have hb3 := TW_b M3.1
                            have lt3 : g 2 7 < g62 2 7 := (R3.1 (by omega)).1
                            rw [Q4] at S5
                            rw [Q5, Q4] at S6
                            rw [Q6, Q5, Q4]
                            exact ⟨_, by omega, rfl, M3, fun z => absurd rfl z, fun _ => cmB_0 S4 S5 S6⟩
              · skip
                have E0 : EN s0 g := EN_fr rg (by decide) (by decide) (by decide)
                obtain ⟨Q1, N1⟩ : g30 = g ∧ (x27 = 1 ∧ isSg (toks g) 91 (g 2 7).toNat ∨ x27 = 0 ∧ ¬ isSg (toks g) 91 (g 2 7).toNat) := qg30
                have B1 := sg_q E0 N1
                have E1 : EN s0 g30 := by
                  rw [Q1]
                  exact E0
                obtain ⟨Q2, N2⟩ : g51 = g30 ∧ x48 = tokI (toks g30) (g30 2 7).toNat := qg51
                rw [E1.1] at N2
                have E2 : EN s0 g51 := by
                  rw [Q2]
                  exact E1
                have R3 : RSp 8 g51 x59 g62 := qg62
                have F3 : EN g51 g62 := EN_fr rg62 (by decide) (by decide) (by decide)
                have E3 : EN s0 g62 := EN_trans E2 F3
                have S1 : sgB (toks s0) 91 (g 2 7).toNat = false := by
                  rcases B1 with ⟨z, y⟩ | ⟨z, y⟩
                  · exact absurd z (by omega)
                  · exact y
                have e2 : g51 = g := Q2.trans Q1
                have D2 : g51 2 7 = g 2 7 := by rw [e2]
                rw [Q1] at N2
                have h24 : tokI (toks s0) (g 2 7).toNat ≠ 24 := by omega
                rw [e2] at R3
                exact FPR_sum0 hp h23 h24 S1 R3 (by omega)
          · skip
            refine ⟨fun g' => g' = stp g51, ?_, ?_⟩
            · skip
              exact v_1289
            · skip
              intro g103 rg103 qg103
              intro b105 eb105 fb105
              refine ⟨fun _ => True, ?_, ?_⟩
              · skip
                exact v_515
              · skip
                intro g114 rg114 qg114
                intro x116 ex116 fx116 gx116
                refine ⟨fun h120 => ?_, fun h120 => ?_⟩
                · skip
                  have E0 : EN s0 g := EN_fr rg (by decide) (by decide) (by decide)
                  obtain ⟨Q1, N1⟩ : g30 = g ∧ (x27 = 1 ∧ isSg (toks g) 91 (g 2 7).toNat ∨ x27 = 0 ∧ ¬ isSg (toks g) 91 (g 2 7).toNat) := qg30
                  have B1 := sg_q E0 N1
                  have E1 : EN s0 g30 := by
                    rw [Q1]
                    exact E0
                  obtain ⟨Q2, N2⟩ : g51 = g30 ∧ x48 = tokI (toks g30) (g30 2 7).toNat := qg51
                  rw [E1.1] at N2
                  have E2 : EN s0 g51 := by
                    rw [Q2]
                    exact E1
                  have T3 : g103 = stp g51 := qg103
                  have E3 : EN s0 g103 := EN_trans E2 (EN_fr rg103 (by decide) (by decide) (by decide))
                  have Z4 : EN g103 g114 ∧ g114 2 = g103 2 := by
                    first
                      | exact EN_put fb105 rg114
                  have E4 : EN s0 g114 := EN_trans E3 Z4.1
                  have S1 : sgB (toks s0) 91 (g 2 7).toNat = false := by
                    rcases B1 with ⟨z, y⟩ | ⟨z, y⟩
                    · exact absurd z (by omega)
                    · exact y
                  rw [Q1] at N2
                  rw [Q2, Q1] at T3
                  have P3 : FPO 8 s0 g103 := FPR_all hp (by omega) T3
                  have P4 := FPO_en P3 Z4.1 Z4.2
                  exact FPO_fact P4
                · skip
                  refine ⟨fun _ => True, ?_, ?_⟩
                  · skip
                    exact v_515
                  · skip
                    intro g127 rg127 qg127
                    have E0 : EN s0 g := EN_fr rg (by decide) (by decide) (by decide)
                    obtain ⟨Q1, N1⟩ : g30 = g ∧ (x27 = 1 ∧ isSg (toks g) 91 (g 2 7).toNat ∨ x27 = 0 ∧ ¬ isSg (toks g) 91 (g 2 7).toNat) := qg30
                    have B1 := sg_q E0 N1
                    have E1 : EN s0 g30 := by
                      rw [Q1]
                      exact E0
                    obtain ⟨Q2, N2⟩ : g51 = g30 ∧ x48 = tokI (toks g30) (g30 2 7).toNat := qg51
                    rw [E1.1] at N2
                    have E2 : EN s0 g51 := by
                      rw [Q2]
                      exact E1
                    have T3 : g103 = stp g51 := qg103
                    have E3 : EN s0 g103 := EN_trans E2 (EN_fr rg103 (by decide) (by decide) (by decide))
                    have Z4 : EN g103 g114 ∧ g114 2 = g103 2 := by
                      first
                        | exact EN_put fb105 rg114
                    have E4 : EN s0 g114 := EN_trans E3 Z4.1
                    have Z5 : EN g114 g127 ∧ g127 2 = g114 2 := by
                      first
                        | exact EN_put fb105 rg127
                    have E5 : EN s0 g127 := EN_trans E4 Z5.1
                    have S1 : sgB (toks s0) 91 (g 2 7).toNat = false := by
                      rcases B1 with ⟨z, y⟩ | ⟨z, y⟩
                      · exact absurd z (by omega)
                      · exact y
                    rw [Q1] at N2
                    rw [Q2, Q1] at T3
                    have P3 : FPO 8 s0 g103 := FPR_all hp (by omega) T3
                    have P4 := FPO_en P3 Z4.1 Z4.2
                    have P5 := FPO_en P4 Z5.1 Z5.2
                    exact FPO_fact P5
  · intro n g v167_2 s167_0 rg qv167_20 qv167_21 qs167_00 qs167_01 hI
    obtain ⟨hn, hp, hs1, hs0⟩ := hI
    have hb := TW_b hp.1
    refine ⟨fun h129 => ?_, fun h129 => ?_⟩
    · skip
      refine ⟨fun g' => g' = stp g, ?_, ?_⟩
      · skip
        exact v_1289
      · skip
        intro g135 rg135 qg135
        refine ⟨fun v g' => RSp 8 g135 v g', ?_, ?_⟩
        · skip
          have E0 : EN s0 g := EN_fr rg (by decide) (by decide) (by decide)
          have T1 : g135 = stp g := qg135
          have E1 : EN s0 g135 := EN_trans E0 (EN_fr rg135 (by decide) (by decide) (by decide))
          have O1 : CM2 8 s0 g135 := CM1_cmp hp (hs1 (by omega)) T1
          exact v_1297_c8 (OWS_en hw E1) O1.1
        · skip
          intro x142 hx1421 hx1422 g145 rg145 qg145
          refine ⟨fun h147 => ?_, fun h147 => ?_⟩
          · skip
            intro b148 eb148 fb148
            refine ⟨fun _ => True, ?_, ?_⟩
            · skip
              exact v_515
            · skip
              intro g157 rg157 qg157
              intro x159 ex159 fx159 gx159
              refine ⟨fun h163 => ?_, fun h163 => ?_⟩
              · skip
                have E0 : EN s0 g := EN_fr rg (by decide) (by decide) (by decide)
                have T1 : g135 = stp g := qg135
                have E1 : EN s0 g135 := EN_trans E0 (EN_fr rg135 (by decide) (by decide) (by decide))
                have R2 : RSp 8 g135 x142 g145 := qg145
                have F2 : EN g135 g145 := EN_fr rg145 (by decide) (by decide) (by decide)
                have E2 : EN s0 g145 := EN_trans E1 F2
                have Z3 : EN g145 g157 ∧ g157 2 = g145 2 := by
                  first
                    | exact EN_put fb148 rg157
                have E3 : EN s0 g157 := EN_trans E2 Z3.1
                have O1 : CM2 8 s0 g135 := CM1_cmp hp (hs1 (by omega)) T1
                have P2 : FPO 8 s0 g145 := CM2_sum O1 R2 F2 (by omega) (by omega) (by omega)
                have P3 := FPO_en P2 Z3.1 Z3.2
                exact FPO_fact P3
              · skip
                refine ⟨fun _ => True, ?_, ?_⟩
                · skip
                  exact v_515
                · skip
                  intro g170 rg170 qg170
                  have E0 : EN s0 g := EN_fr rg (by decide) (by decide) (by decide)
                  have T1 : g135 = stp g := qg135
                  have E1 : EN s0 g135 := EN_trans E0 (EN_fr rg135 (by decide) (by decide) (by decide))
                  have R2 : RSp 8 g135 x142 g145 := qg145
                  have F2 : EN g135 g145 := EN_fr rg145 (by decide) (by decide) (by decide)
                  have E2 : EN s0 g145 := EN_trans E1 F2
                  have Z3 : EN g145 g157 ∧ g157 2 = g145 2 := by
                    first
                      | exact EN_put fb148 rg157
                  have E3 : EN s0 g157 := EN_trans E2 Z3.1
                  have Z4 : EN g157 g170 ∧ g170 2 = g157 2 := by
                    first
                      | exact EN_put fb148 rg170
                  have E4 : EN s0 g170 := EN_trans E3 Z4.1
                  have O1 : CM2 8 s0 g135 := CM1_cmp hp (hs1 (by omega)) T1
                  have P2 : FPO 8 s0 g145 := CM2_sum O1 R2 F2 (by omega) (by omega) (by omega)
                  have P3 := FPO_en P2 Z3.1 Z3.2
                  have P4 := FPO_en P3 Z4.1 Z4.2
                  exact FPO_fact P4
          · skip
            have E0 : EN s0 g := EN_fr rg (by decide) (by decide) (by decide)
            have T1 : g135 = stp g := qg135
            have E1 : EN s0 g135 := EN_trans E0 (EN_fr rg135 (by decide) (by decide) (by decide))
            have R2 : RSp 8 g135 x142 g145 := qg145
            have F2 : EN g135 g145 := EN_fr rg145 (by decide) (by decide) (by decide)
            have E2 : EN s0 g145 := EN_trans E1 F2
            have O1 : CM2 8 s0 g135 := CM1_cmp hp (hs1 (by omega)) T1
            exact CM2_sum0 O1 R2 (by omega)
    · skip
      refine ⟨fun _ g' => (g' 2 0, g' 2 1) = ((1 : Int), if (1 : Int) = 1 ∧ g 4 (g 2 7).toNat = 1 then g 5 (g 2 7).toNat else g 6 (g 2 7).toNat), ?_, ?_⟩
      · skip
        exact v_1286
      · skip
        intro x177 hx1771 hx1772 g180 rg180 qg180
        have E0 : EN s0 g := EN_fr rg (by decide) (by decide) (by decide)
        have X1 : (g180 2 0, g180 2 1) = ((1 : Int), if (1 : Int) = 1 ∧ g 4 (g 2 7).toNat = 1 then g 5 (g 2 7).toNat else g 6 (g 2 7).toNat) := qg180
        have E1 : EN s0 g180 := EN_trans E0 (EN_fr rg180 (by decide) (by decide) (by decide))
        have Y1 := flt_q X1
        rw [E0.1] at Y1
        exact CM1_none hp (hs0 (by omega)) (by omega) Y1
set_option maxHeartbeats 4000000 in
theorem v_1300_c8 {s0 : zF} (hw : OWS s0) (ht : TW s0) : b_1300_c8 s0 (fun v g => RTp 8 s0 v g) := by
  refine ⟨fun n g v2_2 => n = (20 * (2000 - g 2 7) + 9).toNat ∧ FPR 8 s0 g ∧ v2_2 ≤ g 2 7, fun n g v11_2 v11_3 => n = (20 * (2000 - g 2 7) + 8).toNat ∧ FPR 8 s0 g ∧ v11_2 ≤ g 2 7 ∧ v11_3 ≤ g 2 7, fun n g v44_2 v44_3 => n = (20 * (2000 - g 2 7) + 7).toNat ∧ FPO 8 s0 g ∧ v44_2 ≤ g 2 7 ∧ v44_3 ≤ g 2 7, fun n g v66_2 => n = (20 * (2000 - g 2 7) + 6).toNat ∧ FPO 8 s0 g ∧ v66_2 ≤ g 2 7 ∧ tokI (toks s0) (g 2 7).toNat ≠ 22, ?_, ?_, ?_, ?_, ?_⟩
  · skip
    exact ⟨_, rfl, FPR_0 ht, by have := TW_b ht; omega⟩
  · intro n g v2_2 rg qv2_20 qv2_21 hI
    obtain ⟨hn, hp, h3⟩ := hI
    have hb := TW_b hp.1
    refine ⟨fun h1 => ?_, fun h1 => ?_⟩
    · skip
      exfalso
      omega
    · skip
      exact ⟨_, by omega, rfl, hp, h3, by omega⟩
  · intro n g v11_2 v11_3 rg qv11_20 qv11_21 qv11_30 qv11_31 hI
    obtain ⟨hn, hp, h3, h5⟩ := hI
    have hb := TW_b hp.1
    refine ⟨fun h2 => ?_, fun h2 => ?_⟩
    · skip
      exfalso
      omega
    · skip
      refine ⟨fun v g' => RFp 8 g v g', ?_, ?_⟩
      · skip
        have E0 : EN s0 g := EN_fr rg (by decide) (by decide) (by decide)
        exact v_1301_c8 (OWS_en hw E0) hp.1
      · skip
        intro x8 hx81 hx82 g11 rg11 qg11
        refine ⟨fun h13 => ?_, fun h13 => ?_⟩
        · skip
          refine ⟨fun h14 => ?_, fun h14 => ?_⟩
          · skip
            intro b15 eb15 fb15
            refine ⟨fun _ => True, ?_, ?_⟩
            · skip
              exact v_515
            · skip
              intro g24 rg24 qg24
              have E0 : EN s0 g := EN_fr rg (by decide) (by decide) (by decide)
              have R1 : RFp 8 g x8 g11 := qg11
              have F1 : EN g g11 := EN_fr rg11 (by decide) (by decide) (by decide)
              have E1 : EN s0 g11 := EN_trans E0 F1
              have Z2 : EN g11 g24 ∧ g24 2 = g11 2 := by
                first
                  | exact EN_put fb15 rg24
              have E2 : EN s0 g24 := EN_trans E1 Z2.1
              obtain ⟨p1, p2⟩ := FPR_fact hp R1 F1 (by omega) (by omega) (by omega)
              have p3 := FPO_en p1 Z2.1 Z2.2
              have e7 : g24 2 7 = g11 2 7 := by rw [Z2.2]
              exact ⟨_, by omega, rfl, p3, by omega, by omega⟩
          · skip
            have E0 : EN s0 g := EN_fr rg (by decide) (by decide) (by decide)
            have R1 : RFp 8 g x8 g11 := qg11
            have F1 : EN g g11 := EN_fr rg11 (by decide) (by decide) (by decide)
            have E1 : EN s0 g11 := EN_trans E0 F1
            obtain ⟨p1, p2⟩ := FPR_fact hp R1 F1 (by omega) (by omega) (by omega)
            exact ⟨_, by omega, rfl, p1, by omega, by omega⟩
        · skip
          have E0 : EN s0 g := EN_fr rg (by decide) (by decide) (by decide)
          have R1 : RFp 8 g x8 g11 := qg11
          have F1 : EN g g11 := EN_fr rg11 (by decide) (by decide) (by decide)
          have E1 : EN s0 g11 := EN_trans E0 F1
          exact FPR_fact0 hp R1 (by omega)
  · intro n g v44_2 v44_3 rg qv44_20 qv44_21 qv44_30 qv44_31 hI
    obtain ⟨hn, hp, h3, h5⟩ := hI
    have hb := TW_b hp.1
    refine ⟨fun v g' => g' = g ∧ v = tokI (toks g) (g 2 7).toNat, ?_, ?_⟩
    · skip
      have E0 : EN s0 g := EN_fr rg (by decide) (by decide) (by decide)
      exact v_1287 (OWS_en hw E0)
    · skip
      intro x31 hx311 hx312 g34 rg34 qg34
      refine ⟨fun h36 => ?_, fun h36 => ?_⟩
      · skip
        have E0 : EN s0 g := EN_fr rg (by decide) (by decide) (by decide)
        obtain ⟨Q1, N1⟩ : g34 = g ∧ x31 = tokI (toks g) (g 2 7).toNat := qg34
        rw [E0.1] at N1
        have E1 : EN s0 g34 := by
          rw [Q1]
          exact E0
        rw [Q1]
        exact ⟨_, by omega, rfl, hp, h3, by omega⟩
      · skip
        refine ⟨fun g' => g' = stp g34, ?_, ?_⟩
        · skip
          exact v_1289
        · skip
          intro g42 rg42 qg42
          intro x44 ex44
          have E0 : EN s0 g := EN_fr rg (by decide) (by decide) (by decide)
          obtain ⟨Q1, N1⟩ : g34 = g ∧ x31 = tokI (toks g) (g 2 7).toNat := qg34
          rw [E0.1] at N1
          have E1 : EN s0 g34 := by
            rw [Q1]
            exact E0
          have T2 : g42 = stp g34 := qg42
          have E2 : EN s0 g42 := EN_trans E1 (EN_fr rg42 (by decide) (by decide) (by decide))
          rw [Q1] at T2
          obtain ⟨p1, p2⟩ := FPO_ao hp (Or.inl (by omega)) T2
          exact ⟨_, by omega, rfl, p1, by omega, by omega⟩
  · intro n g v66_2 rg qv66_20 qv66_21 hI
    obtain ⟨hn, hp, h3, h22⟩ := hI
    have hb := TW_b hp.1
    refine ⟨fun h46 => ?_, fun h46 => ?_⟩
    · skip
      intro b47 eb47 fb47
      refine ⟨fun _ => True, ?_, ?_⟩
      · skip
        exact v_515
      · skip
        intro g56 rg56 qg56
        refine ⟨fun v g' => g' = g56 ∧ v = tokI (toks g56) (g56 2 7).toNat, ?_, ?_⟩
        · skip
          have E0 : EN s0 g := EN_fr rg (by decide) (by decide) (by decide)
          have Z1 : EN g g56 ∧ g56 2 = g 2 := by
            first
              | exact EN_put fb47 rg56
          have E1 : EN s0 g56 := EN_trans E0 Z1.1
          exact v_1287 (OWS_en hw E1)
        · skip
          intro x63 hx631 hx632 g66 rg66 qg66
          refine ⟨fun h68 => ?_, fun h68 => ?_⟩
          · skip
            have E0 : EN s0 g := EN_fr rg (by decide) (by decide) (by decide)
            have Z1 : EN g g56 ∧ g56 2 = g 2 := by
              first
                | exact EN_put fb47 rg56
            have E1 : EN s0 g56 := EN_trans E0 Z1.1
            obtain ⟨Q2, N2⟩ : g66 = g56 ∧ x63 = tokI (toks g56) (g56 2 7).toNat := qg66
            rw [E1.1] at N2
            have E2 : EN s0 g66 := by
              rw [Q2]
              exact E1
            have hq := FPO_en hp Z1.1 Z1.2
            have e7 : g56 2 7 = g 2 7 := by rw [Z1.2]
            show RTp 8 s0 1 g66
            rw [Q2]
            exact FPO_end hq (by rw [e7]; exact h22) (by omega)
          · skip
            refine ⟨fun g' => g' = stp g66, ?_, ?_⟩
            · skip
              exact v_1289
            · skip
              intro g74 rg74 qg74
              intro x76 ex76
              have E0 : EN s0 g := EN_fr rg (by decide) (by decide) (by decide)
              have Z1 : EN g g56 ∧ g56 2 = g 2 := by
                first
                  | exact EN_put fb47 rg56
              have E1 : EN s0 g56 := EN_trans E0 Z1.1
              obtain ⟨Q2, N2⟩ : g66 = g56 ∧ x63 = tokI (toks g56) (g56 2 7).toNat := qg66
              rw [E1.1] at N2
              have E2 : EN s0 g66 := by
                rw [Q2]
                exact E1
              have T3 : g74 = stp g66 := qg74
              have E3 : EN s0 g74 := EN_trans E2 (EN_fr rg74 (by decide) (by decide) (by decide))
              have hq := FPO_en hp Z1.1 Z1.2
              have e7 : g56 2 7 = g 2 7 := by rw [Z1.2]
              rw [Q2] at T3
              obtain ⟨p1, p2⟩ := FPO_ao hq (Or.inr (by omega)) T3
              exact ⟨_, by omega, rfl, p1, by omega⟩
    · skip
      refine ⟨fun v g' => g' = g ∧ v = tokI (toks g) (g 2 7).toNat, ?_, ?_⟩
      · skip
        have E0 : EN s0 g := EN_fr rg (by decide) (by decide) (by decide)
        exact v_1287 (OWS_en hw E0)
      · skip
        intro x83 hx831 hx832 g86 rg86 qg86
        refine ⟨fun h88 => ?_, fun h88 => ?_⟩
        · skip
          have E0 : EN s0 g := EN_fr rg (by decide) (by decide) (by decide)
          obtain ⟨Q1, N1⟩ : g86 = g ∧ x83 = tokI (toks g) (g 2 7).toNat := qg86
          rw [E0.1] at N1
          have E1 : EN s0 g86 := by
            rw [Q1]
            exact E0
          show RTp 8 s0 1 g86
          rw [Q1]
          exact FPO_end hp h22 (by omega)
        · skip
          refine ⟨fun g' => g' = stp g86, ?_, ?_⟩
          · skip
            exact v_1289
          · skip
            intro g94 rg94 qg94
            intro x96 ex96
            have E0 : EN s0 g := EN_fr rg (by decide) (by decide) (by decide)
            obtain ⟨Q1, N1⟩ : g86 = g ∧ x83 = tokI (toks g) (g 2 7).toNat := qg86
            rw [E0.1] at N1
            have E1 : EN s0 g86 := by
              rw [Q1]
              exact E0
            have T2 : g94 = stp g86 := qg94
            have E2 : EN s0 g94 := EN_trans E1 (EN_fr rg94 (by decide) (by decide) (by decide))
            rw [Q1] at T2
            obtain ⟨p1, p2⟩ := FPO_ao hp (Or.inr (by omega)) T2
            exact ⟨_, by omega, rfl, p1, by omega⟩
set_option maxHeartbeats 4000000 in
theorem v_1301_c7 {s0 : zF} (hw : OWS s0) (ht : TW s0) : b_1301_c7 s0 (fun v g => RFp 7 s0 v g) := by
  refine ⟨fun n g v2_2 => n = (20 * (2000 - g 2 7) + 9).toNat ∧ FPR 7 s0 g ∧ v2_2 ≤ g 2 7, fun n g v28_2 => n = (20 * (2000 - g 2 7) + 5).toNat ∧ FPR 7 s0 g ∧ tokI (toks s0) (g 2 7).toNat ≠ 23, fun n g v167_2 s167_0 => n = (20 * (2000 - g 2 7) + 3).toNat ∧ CM1 7 s0 g ∧ (¬ s167_0 = 0 → cmB (toks s0) (g 2 7).toNat = true) ∧ (s167_0 = 0 → cmB (toks s0) (g 2 7).toNat = false), ?_, ?_, ?_, ?_⟩
  · skip
    exact ⟨_, rfl, FPR_0 ht, by have := TW_b ht; omega⟩
  · intro n g v2_2 rg qv2_20 qv2_21 hI
    obtain ⟨hn, hp, h3⟩ := hI
    have hb := TW_b hp.1
    refine ⟨fun h1 => ?_, fun h1 => ?_⟩
    · skip
      exfalso
      omega
    · skip
      refine ⟨fun v g' => g' = g ∧ v = tokI (toks g) (g 2 7).toNat, ?_, ?_⟩
      · skip
        have E0 : EN s0 g := EN_fr rg (by decide) (by decide) (by decide)
        exact v_1287 (OWS_en hw E0)
      · skip
        intro x7 hx71 hx72 g10 rg10 qg10
        refine ⟨fun h12 => ?_, fun h12 => ?_⟩
        · skip
          have E0 : EN s0 g := EN_fr rg (by decide) (by decide) (by decide)
          obtain ⟨Q1, N1⟩ : g10 = g ∧ x7 = tokI (toks g) (g 2 7).toNat := qg10
          rw [E0.1] at N1
          have E1 : EN s0 g10 := by
            rw [Q1]
            exact E0
          rw [Q1]
          exact ⟨_, by omega, rfl, hp, by omega⟩
        · skip
          refine ⟨fun g' => g' = stp g10, ?_, ?_⟩
          · skip
            exact v_1289
          · skip
            intro g18 rg18 qg18
            intro x20 ex20
            have E0 : EN s0 g := EN_fr rg (by decide) (by decide) (by decide)
            obtain ⟨Q1, N1⟩ : g10 = g ∧ x7 = tokI (toks g) (g 2 7).toNat := qg10
            rw [E0.1] at N1
            have E1 : EN s0 g10 := by
              rw [Q1]
              exact E0
            have T2 : g18 = stp g10 := qg18
            have E2 : EN s0 g18 := EN_trans E1 (EN_fr rg18 (by decide) (by decide) (by decide))
            rw [Q1] at T2
            obtain ⟨p1, p2⟩ := FPR_not hp (by omega) T2
            exact ⟨_, by omega, rfl, p1, by omega⟩
  · intro n g v28_2 rg qv28_20 qv28_21 hI
    obtain ⟨hn, hp, h23⟩ := hI
    have hb := TW_b hp.1
    refine ⟨fun v g' => g' = g ∧ (v = 1 ∧ isSg (toks g) 91 (g 2 7).toNat ∨ v = 0 ∧ ¬ isSg (toks g) 91 (g 2 7).toNat), ?_, ?_⟩
    · skip
      exact v_1299
    · skip
      intro x27 hx271 hx272 g30 rg30 qg30
      refine ⟨fun h32 => ?_, fun h32 => ?_⟩
      · skip
        refine ⟨fun g' => g' = stp g30, ?_, ?_⟩
        · skip
          exact v_1289
        · skip
          intro g38 rg38 qg38
          refine ⟨fun v g' => RTp 8 g38 v g', ?_, ?_⟩
          · skip
            have E0 : EN s0 g := EN_fr rg (by decide) (by decide) (by decide)
            obtain ⟨Q1, N1⟩ : g30 = g ∧ (x27 = 1 ∧ isSg (toks g) 91 (g 2 7).toNat ∨ x27 = 0 ∧ ¬ isSg (toks g) 91 (g 2 7).toNat) := qg30
            have B1 := sg_q E0 N1
            have E1 : EN s0 g30 := by
              rw [Q1]
              exact E0
            have T2 : g38 = stp g30 := qg38
            have E2 : EN s0 g38 := EN_trans E1 (EN_fr rg38 (by decide) (by decide) (by decide))
            have S1 : sgB (toks s0) 91 (g 2 7).toNat = true := by
              rcases B1 with ⟨z, y⟩ | ⟨z, y⟩
              · exact y
              · exact absurd z (by omega)
            rw [Q1] at T2
            have O2 : SQO 7 s0 g38 := FPR_sq hp (by decide) S1 T2
            exact v_1300_c8 (OWS_en hw E2) O2.1
          · skip
            intro x45 hx451 hx452 g48 rg48 qg48
            refine ⟨fun h50 => ?_, fun h50 => ?_⟩
            · skip
              refine ⟨fun v g' => g' = g48 ∧ (v = 1 ∧ isSg (toks g48) 93 (g48 2 7).toNat ∨ v = 0 ∧ ¬ isSg (toks g48) 93 (g48 2 7).toNat), ?_, ?_⟩
              · skip
                exact v_1299
              · skip
                intro x56 hx561 hx562 g59 rg59 qg59
                refine ⟨fun h61 => ?_, fun h61 => ?_⟩
                · skip
                  refine ⟨fun g' => g' = stp g59, ?_, ?_⟩
                  · skip
                    exact v_1289
                  · skip
                    intro g67 rg67 qg67
                    intro x69 ex69 fx69 gx69
                    refine ⟨fun h73 => ?_, fun h73 => ?_⟩
                    · skip
                      have E0 : EN s0 g := EN_fr rg (by decide) (by decide) (by decide)
                      obtain ⟨Q1, N1⟩ : g30 = g ∧ (x27 = 1 ∧ isSg (toks g) 91 (g 2 7).toNat ∨ x27 = 0 ∧ ¬ isSg (toks g) 91 (g 2 7).toNat) := qg30
                      have B1 := sg_q E0 N1
                      have E1 : EN s0 g30 := by
                        rw [Q1]
                        exact E0
                      have T2 : g38 = stp g30 := qg38
                      have E2 : EN s0 g38 := EN_trans E1 (EN_fr rg38 (by decide) (by decide) (by decide))
                      have R3 : RTp 8 g38 x45 g48 := qg48
                      have F3 : EN g38 g48 := EN_fr rg48 (by decide) (by decide) (by decide)
                      have E3 : EN s0 g48 := EN_trans E2 F3
                      obtain ⟨Q4, N4⟩ : g59 = g48 ∧ (x56 = 1 ∧ isSg (toks g48) 93 (g48 2 7).toNat ∨ x56 = 0 ∧ ¬ isSg (toks g48) 93 (g48 2 7).toNat) := qg59
                      have B4 := sg_q E3 N4
                      have E4 : EN s0 g59 := by
                        rw [Q4]
                        exact E3
                      have T5 : g67 = stp g59 := qg67
                      have E5 : EN s0 g67 := EN_trans E4 (EN_fr rg67 (by decide) (by decide) (by decide))
                      have S1 : sgB (toks s0) 91 (g 2 7).toNat = true := by
                        rcases B1 with ⟨z, y⟩ | ⟨z, y⟩
                        · exact y
                        · exact absurd z (by omega)
                      have S4 : sgB (toks s0) 93 (g48 2 7).toNat = true := by
                        rcases B4 with ⟨z, y⟩ | ⟨z, y⟩
                        · exact y
                        · exact absurd z (by omega)
                      rw [Q1] at T2
                      have O2 : SQO 7 s0 g38 := FPR_sq hp (by decide) S1 T2
                      have M3 : SQD 7 s0 g48 := SQO_test O2 R3 F3 (by omega) (by omega) (by omega)
                      rw [Q4] at T5
                      have P5 : FPO 7 s0 g67 := SQD_close M3 S4 T5
                      exact FPO_fact P5
                    · skip
                      intro b74 eb74 fb74
                      refine ⟨fun _ => True, ?_, ?_⟩
                      · skip
                        exact v_515
                      · skip
                        intro g83 rg83 qg83
                        have E0 : EN s0 g := EN_fr rg (by decide) (by decide) (by decide)
                        obtain ⟨Q1, N1⟩ : g30 = g ∧ (x27 = 1 ∧ isSg (toks g) 91 (g 2 7).toNat ∨ x27 = 0 ∧ ¬ isSg (toks g) 91 (g 2 7).toNat) := qg30
                        have B1 := sg_q E0 N1
                        have E1 : EN s0 g30 := by
                          rw [Q1]
                          exact E0
                        have T2 : g38 = stp g30 := qg38
                        have E2 : EN s0 g38 := EN_trans E1 (EN_fr rg38 (by decide) (by decide) (by decide))
                        have R3 : RTp 8 g38 x45 g48 := qg48
                        have F3 : EN g38 g48 := EN_fr rg48 (by decide) (by decide) (by decide)
                        have E3 : EN s0 g48 := EN_trans E2 F3
                        obtain ⟨Q4, N4⟩ : g59 = g48 ∧ (x56 = 1 ∧ isSg (toks g48) 93 (g48 2 7).toNat ∨ x56 = 0 ∧ ¬ isSg (toks g48) 93 (g48 2 7).toNat) := qg59
                        have B4 := sg_q E3 N4
                        have E4 : EN s0 g59 := by
                          rw [Q4]
                          exact E3
                        have T5 : g67 = stp g59 := qg67
                        have E5 : EN s0 g67 := EN_trans E4 (EN_fr rg67 (by decide) (by decide) (by decide))
                        have Z6 : EN g67 g83 ∧ g83 2 = g67 2 := by
                          first
                            | exact EN_put fb74 rg83
                        have E6 : EN s0 g83 := EN_trans E5 Z6.1
                        have S1 : sgB (toks s0) 91 (g 2 7).toNat = true := by
                          rcases B1 with ⟨z, y⟩ | ⟨z, y⟩
                          · exact y
                          · exact absurd z (by omega)
                        have S4 : sgB (toks s0) 93 (g48 2 7).toNat = true := by
                          rcases B4 with ⟨z, y⟩ | ⟨z, y⟩
                          · exact y
                          · exact absurd z (by omega)
                        rw [Q1] at T2
                        have O2 : SQO 7 s0 g38 := FPR_sq hp (by decide) S1 T2
                        have M3 : SQD 7 s0 g48 := SQO_test O2 R3 F3 (by omega) (by omega) (by omega)
                        rw [Q4] at T5
                        have P5 : FPO 7 s0 g67 := SQD_close M3 S4 T5
                        have P6 := FPO_en P5 Z6.1 Z6.2
                        exact FPO_fact P6
                · skip
                  refine ⟨fun _ g' => (g' 2 0, g' 2 1) = ((1 : Int), if (1 : Int) = 1 ∧ g59 4 (g59 2 7).toNat = 1 then g59 5 (g59 2 7).toNat else g59 6 (g59 2 7).toNat), ?_, ?_⟩
                  · skip
                    exact v_1286
                  · skip
                    intro x90 hx901 hx902 g93 rg93 qg93
                    have E0 : EN s0 g := EN_fr rg (by decide) (by decide) (by decide)
                    obtain ⟨Q1, N1⟩ : g30 = g ∧ (x27 = 1 ∧ isSg (toks g) 91 (g 2 7).toNat ∨ x27 = 0 ∧ ¬ isSg (toks g) 91 (g 2 7).toNat) := qg30
                    have B1 := sg_q E0 N1
                    have E1 : EN s0 g30 := by
                      rw [Q1]
                      exact E0
                    have T2 : g38 = stp g30 := qg38
                    have E2 : EN s0 g38 := EN_trans E1 (EN_fr rg38 (by decide) (by decide) (by decide))
                    have R3 : RTp 8 g38 x45 g48 := qg48
                    have F3 : EN g38 g48 := EN_fr rg48 (by decide) (by decide) (by decide)
                    have E3 : EN s0 g48 := EN_trans E2 F3
                    obtain ⟨Q4, N4⟩ : g59 = g48 ∧ (x56 = 1 ∧ isSg (toks g48) 93 (g48 2 7).toNat ∨ x56 = 0 ∧ ¬ isSg (toks g48) 93 (g48 2 7).toNat) := qg59
                    have B4 := sg_q E3 N4
                    have E4 : EN s0 g59 := by
                      rw [Q4]
                      exact E3
                    have X5 : (g93 2 0, g93 2 1) = ((1 : Int), if (1 : Int) = 1 ∧ g59 4 (g59 2 7).toNat = 1 then g59 5 (g59 2 7).toNat else g59 6 (g59 2 7).toNat) := qg93
                    have E5 : EN s0 g93 := EN_trans E4 (EN_fr rg93 (by decide) (by decide) (by decide))
                    have S1 : sgB (toks s0) 91 (g 2 7).toNat = true := by
                      rcases B1 with ⟨z, y⟩ | ⟨z, y⟩
                      · exact y
                      · exact absurd z (by omega)
                    have S4 : sgB (toks s0) 93 (g48 2 7).toNat = false := by
                      rcases B4 with ⟨z, y⟩ | ⟨z, y⟩
                      · exact absurd z (by omega)
                      · exact y
                    rw [Q4] at X5
                    have Y5 := flt_q X5
                    rw [E3.1] at Y5
                    rw [Q1] at T2
                    have O2 : SQO 7 s0 g38 := FPR_sq hp (by decide) S1 T2
                    have M3 : SQD 7 s0 g48 := SQO_test O2 R3 F3 (by omega) (by omega) (by omega)
                    exact SQD_close0 M3 S4 (by omega) Y5
            · skip
              have E0 : EN s0 g := EN_fr rg (by decide) (by decide) (by decide)
              obtain ⟨Q1, N1⟩ : g30 = g ∧ (x27 = 1 ∧ isSg (toks g) 91 (g 2 7).toNat ∨ x27 = 0 ∧ ¬ isSg (toks g) 91 (g 2 7).toNat) := qg30
              have B1 := sg_q E0 N1
              have E1 : EN s0 g30 := by
                rw [Q1]
                exact E0
              have T2 : g38 = stp g30 := qg38
              have E2 : EN s0 g38 := EN_trans E1 (EN_fr rg38 (by decide) (by decide) (by decide))
              have R3 : RTp 8 g38 x45 g48 := qg48
              have F3 : EN g38 g48 := EN_fr rg48 (by decide) (by decide) (by decide)
              have E3 : EN s0 g48 := EN_trans E2 F3
              have S1 : sgB (toks s0) 91 (g 2 7).toNat = true := by
                rcases B1 with ⟨z, y⟩ | ⟨z, y⟩
                · exact y
                · exact absurd z (by omega)
              rw [Q1] at T2
              have O2 : SQO 7 s0 g38 := FPR_sq hp (by decide) S1 T2
              exact SQO_test0 O2 R3 (by omega)
      · skip
        refine ⟨fun v g' => g' = g30 ∧ v = tokI (toks g30) (g30 2 7).toNat, ?_, ?_⟩
        · skip
          have E0 : EN s0 g := EN_fr rg (by decide) (by decide) (by decide)
          obtain ⟨Q1, N1⟩ : g30 = g ∧ (x27 = 1 ∧ isSg (toks g) 91 (g 2 7).toNat ∨ x27 = 0 ∧ ¬ isSg (toks g) 91 (g 2 7).toNat) := qg30
          have B1 := sg_q E0 N1
          have E1 : EN s0 g30 := by
            rw [Q1]
            exact E0
          exact v_1287 (OWS_en hw E1)
        · skip
          intro x100 hx1001 hx1002 g103 rg103 qg103
          refine ⟨fun h105 => ?_, fun h105 => ?_⟩
          · skip
            refine ⟨fun v g' => RSp 7 g103 v g', ?_, ?_⟩
            · skip
              have E0 : EN s0 g := EN_fr rg (by decide) (by decide) (by decide)
              obtain ⟨Q1, N1⟩ : g30 = g ∧ (x27 = 1 ∧ isSg (toks g) 91 (g 2 7).toNat ∨ x27 = 0 ∧ ¬ isSg (toks g) 91 (g 2 7).toNat) := qg30
              have B1 := sg_q E0 N1
              have E1 : EN s0 g30 := by
                rw [Q1]
                exact E0
              obtain ⟨Q2, N2⟩ : g103 = g30 ∧ x100 = tokI (toks g30) (g30 2 7).toNat := qg103
              rw [E1.1] at N2
              have E2 : EN s0 g103 := by
                rw [Q2]
                exact E1
              have S1 : sgB (toks s0) 91 (g 2 7).toNat = false := by
                rcases B1 with ⟨z, y⟩ | ⟨z, y⟩
                · exact absurd z (by omega)
                · exact y
              have e2 : g103 = g := Q2.trans Q1
              have D2 : g103 2 7 = g 2 7 := by rw [e2]
              rw [Q1] at N2
              have h24 : tokI (toks s0) (g 2 7).toNat ≠ 24 := by omega
              exact v_1297_c7 (OWS_en hw E2) (by rw [e2]; exact hp.1)
            · skip
              intro x111 hx1111 hx1112 g114 rg114 qg114
              refine ⟨fun h116 => ?_, fun h116 => ?_⟩
              · skip
                refine ⟨fun v g' => g' = g114 ∧ (v = 1 ∧ isSg (toks g114) 60 (g114 2 7).toNat ∨ v = 0 ∧ ¬ isSg (toks g114) 60 (g114 2 7).toNat), ?_, ?_⟩
                · skip
                  exact v_1299
                · skip
                  intro x122 hx1221 hx1222 g125 rg125 qg125
                  refine ⟨fun h127 => ?_, fun h127 => ?_⟩
                  · skip
                    have E0 : EN s0 g := EN_fr rg (by decide) (by decide) (by decide)
                    obtain ⟨Q1, N1⟩ : g30 = g ∧ (x27 = 1 ∧ isSg (toks g) 91 (g 2 7).toNat ∨ x27 = 0 ∧ ¬ isSg (toks g) 91 (g 2 7).toNat) := qg30
                    have B1 := sg_q E0 N1
                    have E1 : EN s0 g30 := by
                      rw [Q1]
                      exact E0
                    obtain ⟨Q2, N2⟩ : g103 = g30 ∧ x100 = tokI (toks g30) (g30 2 7).toNat := qg103
                    rw [E1.1] at N2
                    have E2 : EN s0 g103 := by
                      rw [Q2]
                      exact E1
                    have R3 : RSp 7 g103 x111 g114 := qg114
                    have F3 : EN g103 g114 := EN_fr rg114 (by decide) (by decide) (by decide)
                    have E3 : EN s0 g114 := EN_trans E2 F3
                    obtain ⟨Q4, N4⟩ : g125 = g114 ∧ (x122 = 1 ∧ isSg (toks g114) 60 (g114 2 7).toNat ∨ x122 = 0 ∧ ¬ isSg (toks g114) 60 (g114 2 7).toNat) := qg125
                    have B4 := sg_q E3 N4
                    have E4 : EN s0 g125 := by
                      rw [Q4]
                      exact E3
                    have S1 : sgB (toks s0) 91 (g 2 7).toNat = false := by
                      rcases B1 with ⟨z, y⟩ | ⟨z, y⟩
                      · exact absurd z (by omega)
                      · exact y
                    have S4 : sgB (toks s0) 60 (g114 2 7).toNat = true := by
                      rcases B4 with ⟨z, y⟩ | ⟨z, y⟩
                      · exact y
                      · exact absurd z (by omega)
                    have e2 : g103 = g := Q2.trans Q1
                    have D2 : g103 2 7 = g 2 7 := by rw [e2]
                    rw [Q1] at N2
                    have h24 : tokI (toks s0) (g 2 7).toNat ≠ 24 := by omega
                    rw [e2] at R3 F3
                    have M3 : CM1 7 s0 g114 := FPR_sum hp h23 h24 S1 R3 F3 (by omega) (by omega) (by omega)
                    have hb3 := TW_b M3.1
                    have lt3 : g 2 7 < g114 2 7 := (R3.1 (by omega)).1
                    rw [Q4]
                    exact ⟨_, by omega, rfl, M3, fun _ => cmB_3 (Or.inl S4), fun z => absurd z (by decide)⟩
                  · skip
                    refine ⟨fun v g' => g' = g125 ∧ (v = 1 ∧ isSg (toks g125) 62 (g125 2 7).toNat ∨ v = 0 ∧ ¬ isSg (toks g125) 62 (g125 2 7).toNat), ?_, ?_⟩
                    · skip
                      exact v_1299
                    · skip
                      intro x133 hx1331 hx1332 g136 rg136 qg136
                      refine ⟨fun h138 => ?_, fun h138 => ?_⟩
                      · skip
                        have E0 : EN s0 g := EN_fr rg (by decide) (by decide) (by decide)
                        obtain ⟨Q1, N1⟩ : g30 = g ∧ (x27 = 1 ∧ isSg (toks g) 91 (g 2 7).toNat ∨ x27 = 0 ∧ ¬ isSg (toks g) 91 (g 2 7).toNat) := qg30
                        have B1 := sg_q E0 N1
                        have E1 : EN s0 g30 := by
                          rw [Q1]
                          exact E0
                        obtain ⟨Q2, N2⟩ : g103 = g30 ∧ x100 = tokI (toks g30) (g30 2 7).toNat := qg103
                        rw [E1.1] at N2
                        have E2 : EN s0 g103 := by
                          rw [Q2]
                          exact E1
                        have R3 : RSp 7 g103 x111 g114 := qg114
                        have F3 : EN g103 g114 := EN_fr rg114 (by decide) (by decide) (by decide)
                        have E3 : EN s0 g114 := EN_trans E2 F3
                        obtain ⟨Q4, N4⟩ : g125 = g114 ∧ (x122 = 1 ∧ isSg (toks g114) 60 (g114 2 7).toNat ∨ x122 = 0 ∧ ¬ isSg (toks g114) 60 (g114 2 7).toNat) := qg125
                        have B4 := sg_q E3 N4
                        have E4 : EN s0 g125 := by
                          rw [Q4]
                          exact E3
                        obtain ⟨Q5, N5⟩ : g136 = g125 ∧ (x133 = 1 ∧ isSg (toks g125) 62 (g125 2 7).toNat ∨ x133 = 0 ∧ ¬ isSg (toks g125) 62 (g125 2 7).toNat) := qg136
                        have B5 := sg_q E4 N5
                        have E5 : EN s0 g136 := by
                          rw [Q5]
                          exact E4
                        have S1 : sgB (toks s0) 91 (g 2 7).toNat = false := by
                          rcases B1 with ⟨z, y⟩ | ⟨z, y⟩
                          · exact absurd z (by omega)
                          · exact y
                        have S4 : sgB (toks s0) 60 (g114 2 7).toNat = false := by
                          rcases B4 with ⟨z, y⟩ | ⟨z, y⟩
                          · exact absurd z (by omega)
                          · exact y
                        have S5 : sgB (toks s0) 62 (g125 2 7).toNat = true := by
                          rcases B5 with ⟨z, y⟩ | ⟨z, y⟩
                          · exact y
                          · exact absurd z (by omega)
                        have e2 : g103 = g := Q2.trans Q1
                        have D2 : g103 2 7 = g 2 7 := by rw [e2]
                        rw [Q1] at N2
                        have h24 : tokI (toks s0) (g 2 7).toNat ≠ 24 := by omega
                        rw [e2] at R3 F3
                        have M3 : CM1 7 s0 g114 := FPR_sum hp h23 h24 S1 R3 F3 (by omega) (by omega) (by omega)
                        have hb3 := TW_b M3.1
                        have lt3 : g 2 7 < g114 2 7 := (R3.1 (by omega)).1
                        rw [Q4] at S5
                        rw [Q5, Q4]
                        exact ⟨_, by omega, rfl, M3, fun _ => cmB_3 (Or.inr (Or.inl S5)), fun z => absurd z (by decide)⟩
                      · skip
                        refine ⟨fun v g' => g' = g136 ∧ (v = 1 ∧ isSg (toks g136) 61 (g136 2 7).toNat ∨ v = 0 ∧ ¬ isSg (toks g136) 61 (g136 2 7).toNat), ?_, ?_⟩
                        · skip
                          exact v_1299
                        · skip
                          intro x144 hx1441 hx1442 g147 rg147 qg147
                          refine ⟨fun h149 => ?_, fun h149 => ?_⟩
                          · skip
                            have E0 : EN s0 g := EN_fr rg (by decide) (by decide) (by decide)
                            obtain ⟨Q1, N1⟩ : g30 = g ∧ (x27 = 1 ∧ isSg (toks g) 91 (g 2 7).toNat ∨ x27 = 0 ∧ ¬ isSg (toks g) 91 (g 2 7).toNat) := qg30
                            have B1 := sg_q E0 N1
                            have E1 : EN s0 g30 := by
                              rw [Q1]
                              exact E0
                            obtain ⟨Q2, N2⟩ : g103 = g30 ∧ x100 = tokI (toks g30) (g30 2 7).toNat := qg103
                            rw [E1.1] at N2
                            have E2 : EN s0 g103 := by
                              rw [Q2]
                              exact E1
                            have R3 : RSp 7 g103 x111 g114 := qg114
                            have F3 : EN g103 g114 := EN_fr rg114 (by decide) (by decide) (by decide)
                            have E3 : EN s0 g114 := EN_trans E2 F3
                            obtain ⟨Q4, N4⟩ : g125 = g114 ∧ (x122 = 1 ∧ isSg (toks g114) 60 (g114 2 7).toNat ∨ x122 = 0 ∧ ¬ isSg (toks g114) 60 (g114 2 7).toNat) := qg125
                            have B4 := sg_q E3 N4
                            have E4 : EN s0 g125 := by
                              rw [Q4]
                              exact E3
                            obtain ⟨Q5, N5⟩ : g136 = g125 ∧ (x133 = 1 ∧ isSg (toks g125) 62 (g125 2 7).toNat ∨ x133 = 0 ∧ ¬ isSg (toks g125) 62 (g125 2 7).toNat) := qg136
                            have B5 := sg_q E4 N5
                            have E5 : EN s0 g136 := by
                              rw [Q5]
                              exact E4
                            obtain ⟨Q6, N6⟩ : g147 = g136 ∧ (x144 = 1 ∧ isSg (toks g136) 61 (g136 2 7).toNat ∨ x144 = 0 ∧ ¬ isSg (toks g136) 61 (g136 2 7).toNat) := qg147
                            have B6 := sg_q E5 N6
                            have E6 : EN s0 g147 := by
                              rw [Q6]
                              exact E5
                            have S1 : sgB (toks s0) 91 (g 2 7).toNat = false := by
                              rcases B1 with ⟨z, y⟩ | ⟨z, y⟩
                              · exact absurd z (by omega)
                              · exact y
                            have S4 : sgB (toks s0) 60 (g114 2 7).toNat = false := by
                              rcases B4 with ⟨z, y⟩ | ⟨z, y⟩
                              · exact absurd z (by omega)
                              · exact y
                            have S5 : sgB (toks s0) 62 (g125 2 7).toNat = false := by
                              rcases B5 with ⟨z, y⟩ | ⟨z, y⟩
                              · exact absurd z (by omega)
                              · exact y
                            have S6 : sgB (toks s0) 61 (g136 2 7).toNat = true := by
                              rcases B6 with ⟨z, y⟩ | ⟨z, y⟩
                              · exact y
                              · exact absurd z (by omega)
                            have e2 : g103 = g := Q2.trans Q1
                            have D2 : g103 2 7 = g 2 7 := by rw [e2]
                            rw [Q1] at N2
                            have h24 : tokI (toks s0) (g 2 7).toNat ≠ 24 := by omega
                            rw [e2] at R3 F3
                            have M3 : CM1 7 s0 g114 := FPR_sum hp h23 h24 S1 R3 F3 (by omega) (by omega) (by omega)
                            have hb3 := TW_b M3.1
                            have lt3 : g 2 7 < g114 2 7 := (R3.1 (by omega)).1
                            rw [Q4] at S5
                            rw [Q5, Q4] at S6
                            rw [Q6, Q5, Q4]
                            exact ⟨_, by omega, rfl, M3, fun _ => cmB_3 (Or.inr (Or.inr S6)), fun z => absurd z (by decide)⟩
                          · skip
                            have E0 : EN s0 g := EN_fr rg (by decide) (by decide) (by decide)
                            obtain ⟨Q1, N1⟩ : g30 = g ∧ (x27 = 1 ∧ isSg (toks g) 91 (g 2 7).toNat ∨ x27 = 0 ∧ ¬ isSg (toks g) 91 (g 2 7).toNat) := qg30
                            have B1 := sg_q E0 N1
                            have E1 : EN s0 g30 := by
                              rw [Q1]
                              exact E0
                            obtain ⟨Q2, N2⟩ : g103 = g30 ∧ x100 = tokI (toks g30) (g30 2 7).toNat := qg103
                            rw [E1.1] at N2
                            have E2 : EN s0 g103 := by
                              rw [Q2]
                              exact E1
                            have R3 : RSp 7 g103 x111 g114 := qg114
                            have F3 : EN g103 g114 := EN_fr rg114 (by decide) (by decide) (by decide)
                            have E3 : EN s0 g114 := EN_trans E2 F3
                            obtain ⟨Q4, N4⟩ : g125 = g114 ∧ (x122 = 1 ∧ isSg (toks g114) 60 (g114 2 7).toNat ∨ x122 = 0 ∧ ¬ isSg (toks g114) 60 (g114 2 7).toNat) := qg125
                            have B4 := sg_q E3 N4
                            have E4 : EN s0 g125 := by
                              rw [Q4]
                              exact E3
                            obtain ⟨Q5, N5⟩ : g136 = g125 ∧ (x133 = 1 ∧ isSg (toks g125) 62 (g125 2 7).toNat ∨ x133 = 0 ∧ ¬ isSg (toks g125) 62 (g125 2 7).toNat) := qg136
                            have B5 := sg_q E4 N5
                            have E5 : EN s0 g136 := by
                              rw [Q5]
                              exact E4
                            obtain ⟨Q6, N6⟩ : g147 = g136 ∧ (x144 = 1 ∧ isSg (toks g136) 61 (g136 2 7).toNat ∨ x144 = 0 ∧ ¬ isSg (toks g136) 61 (g136 2 7).toNat) := qg147
                            have B6 := sg_q E5 N6
                            have E6 : EN s0 g147 := by
                              rw [Q6]
                              exact E5
                            have S1 : sgB (toks s0) 91 (g 2 7).toNat = false := by
                              rcases B1 with ⟨z, y⟩ | ⟨z, y⟩
                              · exact absurd z (by omega)
                              · exact y
                            have S4 : sgB (toks s0) 60 (g114 2 7).toNat = false := by
                              rcases B4 with ⟨z, y⟩ | ⟨z, y⟩
                              · exact absurd z (by omega)
                              · exact y
                            have S5 : sgB (toks s0) 62 (g125 2 7).toNat = false := by
                              rcases B5 with ⟨z, y⟩ | ⟨z, y⟩
                              · exact absurd z (by omega)
                              · exact y
                            have S6 : sgB (toks s0) 61 (g136 2 7).toNat = false := by
                              rcases B6 with ⟨z, y⟩ | ⟨z, y⟩
                              · exact absurd z (by omega)
                              · exact y
                            have e2 : g103 = g := Q2.trans Q1
                            have D2 : g103 2 7 = g 2 7 := by rw [e2]
                            rw [Q1] at N2
                            have h24 : tokI (toks s0) (g 2 7).toNat ≠ 24 := by omega
                            rw [e2] at R3 F3
                            have M3 : CM1 7 s0 g114 := FPR_sum hp h23 h24 S1 R3 F3 (by omega) (by omega) (by omega)
                            have hb3 := TW_b M3.1
                            have lt3 : g 2 7 < g114 2 7 := (R3.1 (by omega)).1
                            rw [Q4] at S5
                            rw [Q5, Q4] at S6
                            rw [Q6, Q5, Q4]
                            exact ⟨_, by omega, rfl, M3, fun z => absurd rfl z, fun _ => cmB_0 S4 S5 S6⟩
              · skip
                have E0 : EN s0 g := EN_fr rg (by decide) (by decide) (by decide)
                obtain ⟨Q1, N1⟩ : g30 = g ∧ (x27 = 1 ∧ isSg (toks g) 91 (g 2 7).toNat ∨ x27 = 0 ∧ ¬ isSg (toks g) 91 (g 2 7).toNat) := qg30
                have B1 := sg_q E0 N1
                have E1 : EN s0 g30 := by
                  rw [Q1]
                  exact E0
                obtain ⟨Q2, N2⟩ : g103 = g30 ∧ x100 = tokI (toks g30) (g30 2 7).toNat := qg103
                rw [E1.1] at N2
                have E2 : EN s0 g103 := by
                  rw [Q2]
                  exact E1
                have R3 : RSp 7 g103 x111 g114 := qg114
                have F3 : EN g103 g114 := EN_fr rg114 (by decide) (by decide) (by decide)
                have E3 : EN s0 g114 := EN_trans E2 F3
                have S1 : sgB (toks s0) 91 (g 2 7).toNat = false := by
                  rcases B1 with ⟨z, y⟩ | ⟨z, y⟩
                  · exact absurd z (by omega)
                  · exact y
                have e2 : g103 = g := Q2.trans Q1
                have D2 : g103 2 7 = g 2 7 := by rw [e2]
                rw [Q1] at N2
                have h24 : tokI (toks s0) (g 2 7).toNat ≠ 24 := by omega
                rw [e2] at R3
                exact FPR_sum0 hp h23 h24 S1 R3 (by omega)
          · skip
            refine ⟨fun g' => g' = stp g103, ?_, ?_⟩
            · skip
              exact v_1289
            · skip
              intro g155 rg155 qg155
              intro b157 eb157 fb157
              refine ⟨fun _ => True, ?_, ?_⟩
              · skip
                exact v_515
              · skip
                intro g166 rg166 qg166
                intro x168 ex168 fx168 gx168
                refine ⟨fun h172 => ?_, fun h172 => ?_⟩
                · skip
                  have E0 : EN s0 g := EN_fr rg (by decide) (by decide) (by decide)
                  obtain ⟨Q1, N1⟩ : g30 = g ∧ (x27 = 1 ∧ isSg (toks g) 91 (g 2 7).toNat ∨ x27 = 0 ∧ ¬ isSg (toks g) 91 (g 2 7).toNat) := qg30
                  have B1 := sg_q E0 N1
                  have E1 : EN s0 g30 := by
                    rw [Q1]
                    exact E0
                  obtain ⟨Q2, N2⟩ : g103 = g30 ∧ x100 = tokI (toks g30) (g30 2 7).toNat := qg103
                  rw [E1.1] at N2
                  have E2 : EN s0 g103 := by
                    rw [Q2]
                    exact E1
                  have T3 : g155 = stp g103 := qg155
                  have E3 : EN s0 g155 := EN_trans E2 (EN_fr rg155 (by decide) (by decide) (by decide))
                  have Z4 : EN g155 g166 ∧ g166 2 = g155 2 := by
                    first
                      | exact EN_put fb157 rg166
                  have E4 : EN s0 g166 := EN_trans E3 Z4.1
                  have S1 : sgB (toks s0) 91 (g 2 7).toNat = false := by
                    rcases B1 with ⟨z, y⟩ | ⟨z, y⟩
                    · exact absurd z (by omega)
                    · exact y
                  rw [Q1] at N2
                  rw [Q2, Q1] at T3
                  have P3 : FPO 7 s0 g155 := FPR_all hp (by omega) T3
                  have P4 := FPO_en P3 Z4.1 Z4.2
                  exact FPO_fact P4
                · skip
                  refine ⟨fun _ => True, ?_, ?_⟩
                  · skip
                    exact v_515
                  · skip
                    intro g179 rg179 qg179
                    have E0 : EN s0 g := EN_fr rg (by decide) (by decide) (by decide)
                    obtain ⟨Q1, N1⟩ : g30 = g ∧ (x27 = 1 ∧ isSg (toks g) 91 (g 2 7).toNat ∨ x27 = 0 ∧ ¬ isSg (toks g) 91 (g 2 7).toNat) := qg30
                    have B1 := sg_q E0 N1
                    have E1 : EN s0 g30 := by
                      rw [Q1]
                      exact E0
                    obtain ⟨Q2, N2⟩ : g103 = g30 ∧ x100 = tokI (toks g30) (g30 2 7).toNat := qg103
                    rw [E1.1] at N2
                    have E2 : EN s0 g103 := by
                      rw [Q2]
                      exact E1
                    have T3 : g155 = stp g103 := qg155
                    have E3 : EN s0 g155 := EN_trans E2 (EN_fr rg155 (by decide) (by decide) (by decide))
                    have Z4 : EN g155 g166 ∧ g166 2 = g155 2 := by
                      first
                        | exact EN_put fb157 rg166
                    have E4 : EN s0 g166 := EN_trans E3 Z4.1
                    have Z5 : EN g166 g179 ∧ g179 2 = g166 2 := by
                      first
                        | exact EN_put fb157 rg179
                    have E5 : EN s0 g179 := EN_trans E4 Z5.1
                    have S1 : sgB (toks s0) 91 (g 2 7).toNat = false := by
                      rcases B1 with ⟨z, y⟩ | ⟨z, y⟩
                      · exact absurd z (by omega)
                      · exact y
                    rw [Q1] at N2
                    rw [Q2, Q1] at T3
                    have P3 : FPO 7 s0 g155 := FPR_all hp (by omega) T3
                    have P4 := FPO_en P3 Z4.1 Z4.2
                    have P5 := FPO_en P4 Z5.1 Z5.2
                    exact FPO_fact P5
  · intro n g v167_2 s167_0 rg qv167_20 qv167_21 qs167_00 qs167_01 hI
    obtain ⟨hn, hp, hs1, hs0⟩ := hI
    have hb := TW_b hp.1
    refine ⟨fun h181 => ?_, fun h181 => ?_⟩
    · skip
      refine ⟨fun g' => g' = stp g, ?_, ?_⟩
      · skip
        exact v_1289
      · skip
        intro g187 rg187 qg187
        refine ⟨fun v g' => RSp 7 g187 v g', ?_, ?_⟩
        · skip
          have E0 : EN s0 g := EN_fr rg (by decide) (by decide) (by decide)
          have T1 : g187 = stp g := qg187
          have E1 : EN s0 g187 := EN_trans E0 (EN_fr rg187 (by decide) (by decide) (by decide))
          have O1 : CM2 7 s0 g187 := CM1_cmp hp (hs1 (by omega)) T1
          exact v_1297_c7 (OWS_en hw E1) O1.1
        · skip
          intro x194 hx1941 hx1942 g197 rg197 qg197
          refine ⟨fun h199 => ?_, fun h199 => ?_⟩
          · skip
            intro b200 eb200 fb200
            refine ⟨fun _ => True, ?_, ?_⟩
            · skip
              exact v_515
            · skip
              intro g209 rg209 qg209
              intro x211 ex211 fx211 gx211
              refine ⟨fun h215 => ?_, fun h215 => ?_⟩
              · skip
                have E0 : EN s0 g := EN_fr rg (by decide) (by decide) (by decide)
                have T1 : g187 = stp g := qg187
                have E1 : EN s0 g187 := EN_trans E0 (EN_fr rg187 (by decide) (by decide) (by decide))
                have R2 : RSp 7 g187 x194 g197 := qg197
                have F2 : EN g187 g197 := EN_fr rg197 (by decide) (by decide) (by decide)
                have E2 : EN s0 g197 := EN_trans E1 F2
                have Z3 : EN g197 g209 ∧ g209 2 = g197 2 := by
                  first
                    | exact EN_put fb200 rg209
                have E3 : EN s0 g209 := EN_trans E2 Z3.1
                have O1 : CM2 7 s0 g187 := CM1_cmp hp (hs1 (by omega)) T1
                have P2 : FPO 7 s0 g197 := CM2_sum O1 R2 F2 (by omega) (by omega) (by omega)
                have P3 := FPO_en P2 Z3.1 Z3.2
                exact FPO_fact P3
              · skip
                refine ⟨fun _ => True, ?_, ?_⟩
                · skip
                  exact v_515
                · skip
                  intro g222 rg222 qg222
                  have E0 : EN s0 g := EN_fr rg (by decide) (by decide) (by decide)
                  have T1 : g187 = stp g := qg187
                  have E1 : EN s0 g187 := EN_trans E0 (EN_fr rg187 (by decide) (by decide) (by decide))
                  have R2 : RSp 7 g187 x194 g197 := qg197
                  have F2 : EN g187 g197 := EN_fr rg197 (by decide) (by decide) (by decide)
                  have E2 : EN s0 g197 := EN_trans E1 F2
                  have Z3 : EN g197 g209 ∧ g209 2 = g197 2 := by
                    first
                      | exact EN_put fb200 rg209
                  have E3 : EN s0 g209 := EN_trans E2 Z3.1
                  have Z4 : EN g209 g222 ∧ g222 2 = g209 2 := by
                    first
                      | exact EN_put fb200 rg222
                  have E4 : EN s0 g222 := EN_trans E3 Z4.1
                  have O1 : CM2 7 s0 g187 := CM1_cmp hp (hs1 (by omega)) T1
                  have P2 : FPO 7 s0 g197 := CM2_sum O1 R2 F2 (by omega) (by omega) (by omega)
                  have P3 := FPO_en P2 Z3.1 Z3.2
                  have P4 := FPO_en P3 Z4.1 Z4.2
                  exact FPO_fact P4
          · skip
            have E0 : EN s0 g := EN_fr rg (by decide) (by decide) (by decide)
            have T1 : g187 = stp g := qg187
            have E1 : EN s0 g187 := EN_trans E0 (EN_fr rg187 (by decide) (by decide) (by decide))
            have R2 : RSp 7 g187 x194 g197 := qg197
            have F2 : EN g187 g197 := EN_fr rg197 (by decide) (by decide) (by decide)
            have E2 : EN s0 g197 := EN_trans E1 F2
            have O1 : CM2 7 s0 g187 := CM1_cmp hp (hs1 (by omega)) T1
            exact CM2_sum0 O1 R2 (by omega)
    · skip
      refine ⟨fun _ g' => (g' 2 0, g' 2 1) = ((1 : Int), if (1 : Int) = 1 ∧ g 4 (g 2 7).toNat = 1 then g 5 (g 2 7).toNat else g 6 (g 2 7).toNat), ?_, ?_⟩
      · skip
        exact v_1286
      · skip
        intro x229 hx2291 hx2292 g232 rg232 qg232
        have E0 : EN s0 g := EN_fr rg (by decide) (by decide) (by decide)
        have X1 : (g232 2 0, g232 2 1) = ((1 : Int), if (1 : Int) = 1 ∧ g 4 (g 2 7).toNat = 1 then g 5 (g 2 7).toNat else g 6 (g 2 7).toNat) := qg232
        have E1 : EN s0 g232 := EN_trans E0 (EN_fr rg232 (by decide) (by decide) (by decide))
        have Y1 := flt_q X1
        rw [E0.1] at Y1
        exact CM1_none hp (hs0 (by omega)) (by omega) Y1
set_option maxHeartbeats 4000000 in
theorem v_1300_c7 {s0 : zF} (hw : OWS s0) (ht : TW s0) : b_1300_c7 s0 (fun v g => RTp 7 s0 v g) := by
  refine ⟨fun n g v2_2 => n = (20 * (2000 - g 2 7) + 9).toNat ∧ FPR 7 s0 g ∧ v2_2 ≤ g 2 7, fun n g v11_2 v11_3 => n = (20 * (2000 - g 2 7) + 8).toNat ∧ FPR 7 s0 g ∧ v11_2 ≤ g 2 7 ∧ v11_3 ≤ g 2 7, fun n g v44_2 v44_3 => n = (20 * (2000 - g 2 7) + 7).toNat ∧ FPO 7 s0 g ∧ v44_2 ≤ g 2 7 ∧ v44_3 ≤ g 2 7, fun n g v66_2 => n = (20 * (2000 - g 2 7) + 6).toNat ∧ FPO 7 s0 g ∧ v66_2 ≤ g 2 7 ∧ tokI (toks s0) (g 2 7).toNat ≠ 22, ?_, ?_, ?_, ?_, ?_⟩
  · skip
    exact ⟨_, rfl, FPR_0 ht, by have := TW_b ht; omega⟩
  · intro n g v2_2 rg qv2_20 qv2_21 hI
    obtain ⟨hn, hp, h3⟩ := hI
    have hb := TW_b hp.1
    refine ⟨fun h1 => ?_, fun h1 => ?_⟩
    · skip
      exfalso
      omega
    · skip
      exact ⟨_, by omega, rfl, hp, h3, by omega⟩
  · intro n g v11_2 v11_3 rg qv11_20 qv11_21 qv11_30 qv11_31 hI
    obtain ⟨hn, hp, h3, h5⟩ := hI
    have hb := TW_b hp.1
    refine ⟨fun h2 => ?_, fun h2 => ?_⟩
    · skip
      exfalso
      omega
    · skip
      refine ⟨fun v g' => RFp 7 g v g', ?_, ?_⟩
      · skip
        have E0 : EN s0 g := EN_fr rg (by decide) (by decide) (by decide)
        exact v_1301_c7 (OWS_en hw E0) hp.1
      · skip
        intro x8 hx81 hx82 g11 rg11 qg11
        refine ⟨fun h13 => ?_, fun h13 => ?_⟩
        · skip
          refine ⟨fun h14 => ?_, fun h14 => ?_⟩
          · skip
            intro b15 eb15 fb15
            refine ⟨fun _ => True, ?_, ?_⟩
            · skip
              exact v_515
            · skip
              intro g24 rg24 qg24
              have E0 : EN s0 g := EN_fr rg (by decide) (by decide) (by decide)
              have R1 : RFp 7 g x8 g11 := qg11
              have F1 : EN g g11 := EN_fr rg11 (by decide) (by decide) (by decide)
              have E1 : EN s0 g11 := EN_trans E0 F1
              have Z2 : EN g11 g24 ∧ g24 2 = g11 2 := by
                first
                  | exact EN_put fb15 rg24
              have E2 : EN s0 g24 := EN_trans E1 Z2.1
              obtain ⟨p1, p2⟩ := FPR_fact hp R1 F1 (by omega) (by omega) (by omega)
              have p3 := FPO_en p1 Z2.1 Z2.2
              have e7 : g24 2 7 = g11 2 7 := by rw [Z2.2]
              exact ⟨_, by omega, rfl, p3, by omega, by omega⟩
          · skip
            have E0 : EN s0 g := EN_fr rg (by decide) (by decide) (by decide)
            have R1 : RFp 7 g x8 g11 := qg11
            have F1 : EN g g11 := EN_fr rg11 (by decide) (by decide) (by decide)
            have E1 : EN s0 g11 := EN_trans E0 F1
            obtain ⟨p1, p2⟩ := FPR_fact hp R1 F1 (by omega) (by omega) (by omega)
            exact ⟨_, by omega, rfl, p1, by omega, by omega⟩
        · skip
          have E0 : EN s0 g := EN_fr rg (by decide) (by decide) (by decide)
          have R1 : RFp 7 g x8 g11 := qg11
          have F1 : EN g g11 := EN_fr rg11 (by decide) (by decide) (by decide)
          have E1 : EN s0 g11 := EN_trans E0 F1
          exact FPR_fact0 hp R1 (by omega)
  · intro n g v44_2 v44_3 rg qv44_20 qv44_21 qv44_30 qv44_31 hI
    obtain ⟨hn, hp, h3, h5⟩ := hI
    have hb := TW_b hp.1
    refine ⟨fun v g' => g' = g ∧ v = tokI (toks g) (g 2 7).toNat, ?_, ?_⟩
    · skip
      have E0 : EN s0 g := EN_fr rg (by decide) (by decide) (by decide)
      exact v_1287 (OWS_en hw E0)
    · skip
      intro x31 hx311 hx312 g34 rg34 qg34
      refine ⟨fun h36 => ?_, fun h36 => ?_⟩
      · skip
        have E0 : EN s0 g := EN_fr rg (by decide) (by decide) (by decide)
        obtain ⟨Q1, N1⟩ : g34 = g ∧ x31 = tokI (toks g) (g 2 7).toNat := qg34
        rw [E0.1] at N1
        have E1 : EN s0 g34 := by
          rw [Q1]
          exact E0
        rw [Q1]
        exact ⟨_, by omega, rfl, hp, h3, by omega⟩
      · skip
        refine ⟨fun g' => g' = stp g34, ?_, ?_⟩
        · skip
          exact v_1289
        · skip
          intro g42 rg42 qg42
          intro x44 ex44
          have E0 : EN s0 g := EN_fr rg (by decide) (by decide) (by decide)
          obtain ⟨Q1, N1⟩ : g34 = g ∧ x31 = tokI (toks g) (g 2 7).toNat := qg34
          rw [E0.1] at N1
          have E1 : EN s0 g34 := by
            rw [Q1]
            exact E0
          have T2 : g42 = stp g34 := qg42
          have E2 : EN s0 g42 := EN_trans E1 (EN_fr rg42 (by decide) (by decide) (by decide))
          rw [Q1] at T2
          obtain ⟨p1, p2⟩ := FPO_ao hp (Or.inl (by omega)) T2
          exact ⟨_, by omega, rfl, p1, by omega, by omega⟩
  · intro n g v66_2 rg qv66_20 qv66_21 hI
    obtain ⟨hn, hp, h3, h22⟩ := hI
    have hb := TW_b hp.1
    refine ⟨fun h46 => ?_, fun h46 => ?_⟩
    · skip
      intro b47 eb47 fb47
      refine ⟨fun _ => True, ?_, ?_⟩
      · skip
        exact v_515
      · skip
        intro g56 rg56 qg56
        refine ⟨fun v g' => g' = g56 ∧ v = tokI (toks g56) (g56 2 7).toNat, ?_, ?_⟩
        · skip
          have E0 : EN s0 g := EN_fr rg (by decide) (by decide) (by decide)
          have Z1 : EN g g56 ∧ g56 2 = g 2 := by
            first
              | exact EN_put fb47 rg56
          have E1 : EN s0 g56 := EN_trans E0 Z1.1
          exact v_1287 (OWS_en hw E1)
        · skip
          intro x63 hx631 hx632 g66 rg66 qg66
          refine ⟨fun h68 => ?_, fun h68 => ?_⟩
          · skip
            have E0 : EN s0 g := EN_fr rg (by decide) (by decide) (by decide)
            have Z1 : EN g g56 ∧ g56 2 = g 2 := by
              first
                | exact EN_put fb47 rg56
            have E1 : EN s0 g56 := EN_trans E0 Z1.1
            obtain ⟨Q2, N2⟩ : g66 = g56 ∧ x63 = tokI (toks g56) (g56 2 7).toNat := qg66
            rw [E1.1] at N2
            have E2 : EN s0 g66 := by
              rw [Q2]
              exact E1
            have hq := FPO_en hp Z1.1 Z1.2
            have e7 : g56 2 7 = g 2 7 := by rw [Z1.2]
            show RTp 7 s0 1 g66
            rw [Q2]
            exact FPO_end hq (by rw [e7]; exact h22) (by omega)
          · skip
            refine ⟨fun g' => g' = stp g66, ?_, ?_⟩
            · skip
              exact v_1289
            · skip
              intro g74 rg74 qg74
              intro x76 ex76
              have E0 : EN s0 g := EN_fr rg (by decide) (by decide) (by decide)
              have Z1 : EN g g56 ∧ g56 2 = g 2 := by
                first
                  | exact EN_put fb47 rg56
              have E1 : EN s0 g56 := EN_trans E0 Z1.1
              obtain ⟨Q2, N2⟩ : g66 = g56 ∧ x63 = tokI (toks g56) (g56 2 7).toNat := qg66
              rw [E1.1] at N2
              have E2 : EN s0 g66 := by
                rw [Q2]
                exact E1
              have T3 : g74 = stp g66 := qg74
              have E3 : EN s0 g74 := EN_trans E2 (EN_fr rg74 (by decide) (by decide) (by decide))
              have hq := FPO_en hp Z1.1 Z1.2
              have e7 : g56 2 7 = g 2 7 := by rw [Z1.2]
              rw [Q2] at T3
              obtain ⟨p1, p2⟩ := FPO_ao hq (Or.inr (by omega)) T3
              exact ⟨_, by omega, rfl, p1, by omega⟩
    · skip
      refine ⟨fun v g' => g' = g ∧ v = tokI (toks g) (g 2 7).toNat, ?_, ?_⟩
      · skip
        have E0 : EN s0 g := EN_fr rg (by decide) (by decide) (by decide)
        exact v_1287 (OWS_en hw E0)
      · skip
        intro x83 hx831 hx832 g86 rg86 qg86
        refine ⟨fun h88 => ?_, fun h88 => ?_⟩
        · skip
          have E0 : EN s0 g := EN_fr rg (by decide) (by decide) (by decide)
          obtain ⟨Q1, N1⟩ : g86 = g ∧ x83 = tokI (toks g) (g 2 7).toNat := qg86
          rw [E0.1] at N1
          have E1 : EN s0 g86 := by
            rw [Q1]
            exact E0
          show RTp 7 s0 1 g86
          rw [Q1]
          exact FPO_end hp h22 (by omega)
        · skip
          refine ⟨fun g' => g' = stp g86, ?_, ?_⟩
          · skip
            exact v_1289
          · skip
            intro g94 rg94 qg94
            intro x96 ex96
            have E0 : EN s0 g := EN_fr rg (by decide) (by decide) (by decide)
            obtain ⟨Q1, N1⟩ : g86 = g ∧ x83 = tokI (toks g) (g 2 7).toNat := qg86
            rw [E0.1] at N1
            have E1 : EN s0 g86 := by
              rw [Q1]
              exact E0
            have T2 : g94 = stp g86 := qg94
            have E2 : EN s0 g94 := EN_trans E1 (EN_fr rg94 (by decide) (by decide) (by decide))
            rw [Q1] at T2
            obtain ⟨p1, p2⟩ := FPO_ao hp (Or.inr (by omega)) T2
            exact ⟨_, by omega, rfl, p1, by omega⟩
