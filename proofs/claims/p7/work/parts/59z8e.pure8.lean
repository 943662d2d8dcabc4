/-! pure proofs of the recursion (wip/safe/vcp.py) -/
set_option maxHeartbeats 4000000 in
theorem v_1301_c6 {s0 : zF} (hw : OWS s0) (ht : TW s0) : b_1301_c6 s0 (fun v g => RFp 6 s0 v g) := by
  refine ⟨fun n g v2_2 => n = (20 * (2000 - g 2 7) + 9).toNat ∧ FPR 6 s0 g ∧ v2_2 ≤ g 2 7, fun n g v28_2 => n = (20 * (2000 - g 2 7) + 5).toNat ∧ FPR 6 s0 g ∧ tokI (toks s0) (g 2 7).toNat ≠ 23, fun n g v167_2 s167_0 => n = (20 * (2000 - g 2 7) + 3).toNat ∧ CM1 6 s0 g ∧ (¬ s167_0 = 0 → cmB (toks s0) (g 2 7).toNat = true) ∧ (s167_0 = 0 → cmB (toks s0) (g 2 7).toNat = false), ?_, ?_, ?_, ?_⟩
  · skip
    exact ⟨_, rfl, FPR_0 ht, by have := TW_b ht; omega⟩
  · intro n g v2_2 rg qv2_20 qv2_21 hI
    obtain ⟨hn, hp, h3⟩ := hI
    have hb := TW_b hp.1
    refine ⟨fun h1 => ?_, fun h1 => ?_⟩
    · skip
      exfalso
      omega
    · skip
      refine ⟨fun v g' => g' = g ∧ v = tokI (toks g) (g 2 7).toNat, ?_, ?_⟩
      · skip
        have E0 : EN s0 g := EN_fr rg (by decide) (by decide) (by decide)
        exact v_1287 (OWS_en hw E0)
      · skip
        intro x7 hx71 hx72 g10 rg10 qg10
        refine ⟨fun h12 => ?_, fun h12 => ?_⟩
        · skip
          have E0 : EN s0 g := EN_fr rg (by decide) (by decide) (by decide)
          obtain ⟨Q1, N1⟩ : g10 = g ∧ x7 = tokI (toks g) (g 2 7).toNat := qg10
          rw [E0.1] at N1
          have E1 : EN s0 g10 := by
            rw [Q1]
            exact E0
          rw [Q1]
          exact ⟨_, by omega, rfl, hp, by omega⟩
        · skip
          refine ⟨fun g' => g' = stp g10, ?_, ?_⟩
          · skip
            exact v_1289
          · skip
            intro g18 rg18 qg18
            intro x20 ex20
            have E0 : EN s0 g := EN_fr rg (by decide) (by decide) (by decide)
            obtain ⟨Q1, N1⟩ : g10 = g ∧ x7 = tokI (toks g) (g 2 7).toNat := qg10
            rw [E0.1] at N1
            have E1 : EN s0 g10 := by
              rw [Q1]
              exact E0
            have T2 : g18 = stp g10 := qg18
            have E2 : EN s0 g18 := EN_trans E1 (EN_fr rg18 (by decide) (by decide) (by decide))
            rw [Q1] at T2
            obtain ⟨p1, p2⟩ := FPR_not hp (by omega) T2
            exact ⟨_, by omega, rfl, p1, by omega⟩
  · intro n g v28_2 rg qv28_20 qv28_21 hI
    obtain ⟨hn, hp, h23⟩ := hI
    have hb := TW_b hp.1
    refine ⟨fun v g' => g' = g ∧ (v = 1 ∧ isSg (toks g) 91 (g 2 7).toNat ∨ v = 0 ∧ ¬ isSg (toks g) 91 (g 2 7).toNat), ?_, ?_⟩
    · skip
      exact v_1299
    · skip
      intro x27 hx271 hx272 g30 rg30 qg30
      refine ⟨fun h32 => ?_, fun h32 => ?_⟩
      · skip
        refine ⟨fun g' => g' = stp g30, ?_, ?_⟩
        · skip
          exact v_1289
        · skip
          intro g38 rg38 qg38
          refine ⟨fun v g' => RTp 7 g38 v g', ?_, ?_⟩
          · skip
            have E0 : EN s0 g := EN_fr rg (by decide) (by decide) (by decide)
            obtain ⟨Q1, N1⟩ : g30 = g ∧ (x27 = 1 ∧ isSg (toks g) 91 (g 2 7).toNat ∨ x27 = 0 ∧ ¬ isSg (toks g) 91 (g 2 7).toNat) := qg30
            have B1 := sg_q E0 N1
            have E1 : EN s0 g30 := by
              rw [Q1]
              exact E0
            have T2 : g38 = stp g30 := qg38
            have E2 : EN s0 g38 := EN_trans E1 (EN_fr rg38 (by decide) (by decide) (by decide))
            have S1 : sgB (toks s0) 91 (g 2 7).toNat = true := by
              rcases B1 with ⟨z, y⟩ | ⟨z, y⟩
              · exact y
              · exact absurd z (by omega)
            rw [Q1] at T2
            have O2 : SQO 6 s0 g38 := FPR_sq hp (by decide) S1 T2
            exact v_1300_c7 (OWS_en hw E2) O2.1
          · skip
            intro x45 hx451 hx452 g48 rg48 qg48
            refine ⟨fun h50 => ?_, fun h50 => ?_⟩
            · skip
              refine ⟨fun v g' => g' = g48 ∧ (v = 1 ∧ isSg (toks g48) 93 (g48 2 7).toNat ∨ v = 0 ∧ ¬ isSg (toks g48) 93 (g48 2 7).toNat), ?_, ?_⟩
              · skip
                exact v_1299
              · skip
                intro x56 hx561 hx562 g59 rg59 qg59
                refine ⟨fun h61 => ?_, fun h61 => ?_⟩
                · skip
                  refine ⟨fun g' => g' = stp g59, ?_, ?_⟩
                  · skip
                    exact v_1289
                  · skip
                    intro g67 rg67 qg67
                    intro x69 ex69 fx69 gx69
                    refine ⟨fun h73 => ?_, fun h73 => ?_⟩
                    · skip
                      have E0 : EN s0 g := EN_fr rg (by decide) (by decide) (by decide)
                      obtain ⟨Q1, N1⟩ : g30 = g ∧ (x27 = 1 ∧ isSg (toks g) 91 (g 2 7).toNat ∨ x27 = 0 ∧ ¬ isSg (toks g) 91 (g 2 7).toNat) := qg30
                      have B1 := sg_q E0 N1
                      have E1 : EN s0 g30 := by
                        rw [Q1]
                        exact E0
                      have T2 : g38 = stp g30 := qg38
                      have E2 : EN s0 g38 := EN_trans E1 (EN_fr rg38 (by decide) (by decide) (by decide))
                      have R3 : RTp 7 g38 x45 g48 := qg48
                      have F3 : EN g38 g48 := EN_fr rg48 (by decide) (by decide) (by decide)
                      have E3 : EN s0 g48 := EN_trans E2 F3
                      obtain ⟨Q4, N4⟩ : g59 = g48 ∧ (x56 = 1 ∧ isSg (toks g48) 93 (g48 2 7).toNat ∨ x56 = 0 ∧ ¬ isSg (toks g48) 93 (g48 2 7).toNat) := qg59
                      have B4 := sg_q E3 N4
                      have E4 : EN s0 g59 := by
                        rw [Q4]
                        exact E3
                      have T5 : g67 = stp g59 := qg67
                      have E5 : EN s0 g67 := EN_trans E4 (EN_fr rg67 (by decide) (by decide) (by decide))
                      have S1 : sgB (toks s0) 91 (g 2 7).toNat = true := by
                        rcases B1 with ⟨z, y⟩ | ⟨z, y⟩
                        · exact y
                        · exact absurd z (by omega)
                      have S4 : sgB (toks s0) 93 (g48 2 7).toNat = true := by
                        rcases B4 with ⟨z, y⟩ | ⟨z, y⟩
                        · exact y
                        · exact absurd z (by omega)
                      rw [Q1] at T2
                      have O2 : SQO 6 s0 g38 := FPR_sq hp (by decide) S1 T2
                      have M3 : SQD 6 s0 g48 := SQO_test O2 R3 F3 (by omega) (by omega) (by omega)
                      rw [Q4] at T5
                      have P5 : FPO 6 s0 g67 := SQD_close M3 S4 T5
                      exact FPO_fact P5
                    · skip
                      intro b74 eb74 fb74
                      refine ⟨fun _ => True, ?_, ?_⟩
                      · skip
                        exact v_515
                      · skip
                        intro g83 rg83 qg83
                        have E0 : EN s0 g := EN_fr rg (by decide) (by decide) (by decide)
                        obtain ⟨Q1, N1⟩ : g30 = g ∧ (x27 = 1 ∧ isSg (toks g) 91 (g 2 7).toNat ∨ x27 = 0 ∧ ¬ isSg (toks g) 91 (g 2 7).toNat) := qg30
                        have B1 := sg_q E0 N1
                        have E1 : EN s0 g30 := by
                          rw [Q1]
                          exact E0
                        have T2 : g38 = stp g30 := qg38
                        have E2 : EN s0 g38 := EN_trans E1 (EN_fr rg38 (by decide) (by decide) (by decide))
                        have R3 : RTp 7 g38 x45 g48 := qg48
                        have F3 : EN g38 g48 := EN_fr rg48 (by decide) (by decide) (by decide)
                        have E3 : EN s0 g48 := EN_trans E2 F3
                        obtain ⟨Q4, N4⟩ : g59 = g48 ∧ (x56 = 1 ∧ isSg (toks g48) 93 (g48 2 7).toNat ∨ x56 = 0 ∧ ¬ isSg (toks g48) 93 (g48 2 7).toNat) := qg59
                        have B4 := sg_q E3 N4
                        have E4 : EN s0 g59 := by
                          rw [Q4]
                          exact E3
                        have T5 : g67 = stp g59 := qg67
                        have E5 : EN s0 g67 := EN_trans E4 (EN_fr rg67 (by decide) (by decide) (by decide))
                        have Z6 : EN g67 g83 ∧ g83 2 = g67 2 := by
                          first
                            | exact EN_put fb74 rg83
                        have E6 : EN s0 g83 := EN_trans E5 Z6.1
                        have S1 : sgB (toks s0) 91 (g 2 7).toNat = true := by
                          rcases B1 with ⟨z, y⟩ | ⟨z, y⟩
                          · exact y
                          · exact absurd z (by omega)
                        have S4 : sgB (toks s0) 93 (g48 2 7).toNat = true := by
                          rcases B4 with ⟨z, y⟩ | ⟨z, y⟩
                          · exact y
                          · exact absurd z (by omega)
                        rw [Q1] at T2
                        have O2 : SQO 6 s0 g38 := FPR_sq hp (by decide) S1 T2
                        have M3 : SQD 6 s0 g48 := SQO_test O2 R3 F3 (by omega) (by omega) (by omega)
                        rw [Q4] at T5
                        have P5 : FPO 6 s0 g67 := SQD_close M3 S4 T5
                        have P6 := FPO_en P5 Z6.1 Z6.2
                        exact FPO_fact P6
                · skip
                  refine ⟨fun _ g' => (g' 2 0, g' 2 1) = ((1 : Int), if (1 : Int) = 1 ∧ g59 4 (g59 2 7).toNat = 1 then g59 5 (g59 2 7).toNat else g59 6 (g59 2 7).toNat), ?_, ?_⟩
                  · skip
                    exact v_1286
                  · skip
                    intro x90 hx901 hx902 g93 rg93 qg93
                    have E0 : EN s0 g := EN_fr rg (by decide) (by decide) (by decide)
                    obtain ⟨Q1, N1⟩ : g30 = g ∧ (x27 = 1 ∧ isSg (toks g) 91 (g 2 7).toNat ∨ x27 = 0 ∧ ¬ isSg (toks g) 91 (g 2 7).toNat) := qg30
                    have B1 := sg_q E0 N1
                    have E1 : EN s0 g30 := by
                      rw [Q1]
                      exact E0
                    have T2 : g38 = stp g30 := qg38
                    have E2 : EN s0 g38 := EN_trans E1 (EN_fr rg38 (by decide) (by decide) (by decide))
                    have R3 : RTp 7 g38 x45 g48 := qg48
                    have F3 : EN g38 g48 := EN_fr rg48 (by decide) (by decide) (by decide)
                    have E3 : EN s0 g48 := EN_trans E2 F3
                    obtain ⟨Q4, N4⟩ : g59 = g48 ∧ (x56 = 1 ∧ isSg (toks g48) 93 (g48 2 7).toNat ∨ x56 = 0 ∧ ¬ isSg (toks g48) 93 (g48 2 7).toNat) := qg59
                    have B4 := sg_q E3 N4
                    have E4 : EN s0 g59 := by
                      rw [Q4]
                      exact E3
                    have X5 : (g93 2 0, g93 2 1) = ((1 : Int), if (1 : Int) = 1 ∧ g59 4 (g59 2 7).toNat = 1 then g59 5 (g59 2 7).toNat else g59 6 (g59 2 7).toNat) := qg93
                    have E5 : EN s0 g93 := EN_trans E4 (EN_fr rg93 (by decide) (by decide) (by decide))
                    have S1 : sgB (toks s0) 91 (g 2 7).toNat = true := by
                      rcases B1 with ⟨z, y⟩ | ⟨z, y⟩
                      · exact y
                      · exact absurd z (by omega)
                    have S4 : sgB (toks s0) 93 (g48 2 7).toNat = false := by
                      rcases B4 with ⟨z, y⟩ | ⟨z, y⟩
                      · exact absurd z (by omega)
                      · exact y
                    rw [Q4] at X5
                    have Y5 := flt_q X5
                    rw [E3.1] at Y5
                    rw [Q1] at T2
                    have O2 : SQO 6 s0 g38 := FPR_sq hp (by decide) S1 T2
                    have M3 : SQD 6 s0 g48 := SQO_test O2 R3 F3 (by omega) (by omega) (by omega)
                    exact SQD_close0 M3 S4 (by omega) Y5
            · skip
              have E0 : EN s0 g := EN_fr rg (by decide) (by decide) (by decide)
              obtain ⟨Q1, N1⟩ : g30 = g ∧ (x27 = 1 ∧ isSg (toks g) 91 (g 2 7).toNat ∨ x27 = 0 ∧ ¬ isSg (toks g) 91 (g 2 7).toNat) := qg30
              have B1 := sg_q E0 N1
              have E1 : EN s0 g30 := by
                rw [Q1]
                exact E0
              have T2 : g38 = stp g30 := qg38
              have E2 : EN s0 g38 := EN_trans E1 (EN_fr rg38 (by decide) (by decide) (by decide))
              have R3 : RTp 7 g38 x45 g48 := qg48
              have F3 : EN g38 g48 := EN_fr rg48 (by decide) (by decide) (by decide)
              have E3 : EN s0 g48 := EN_trans E2 F3
              have S1 : sgB (toks s0) 91 (g 2 7).toNat = true := by
                rcases B1 with ⟨z, y⟩ | ⟨z, y⟩
                · exact y
                · exact absurd z (by omega)
              rw [Q1] at T2
              have O2 : SQO 6 s0 g38 := FPR_sq hp (by decide) S1 T2
              exact SQO_test0 O2 R3 (by omega)
      · skip
        refine ⟨fun v g' => g' = g30 ∧ v = tokI (toks g30) (g30 2 7).toNat, ?_, ?_⟩
        · skip
          have E0 : EN s0 g := EN_fr rg (by decide) (by decide) (by decide)
          obtain ⟨Q1, N1⟩ : g30 = g ∧ (x27 = 1 ∧ isSg (toks g) 91 (g 2 7).toNat ∨ x27 = 0 ∧ ¬ isSg (toks g) 91 (g 2 7).toNat) := qg30
          have B1 := sg_q E0 N1
          have E1 : EN s0 g30 := by
            rw [Q1]
            exact E0
          exact v_1287 (OWS_en hw E1)
        · skip
          intro x100 hx1001 hx1002 g103 rg103 qg103
          refine ⟨fun h105 => ?_, fun h105 => ?_⟩
          · skip
            refine ⟨fun v g' => RSp 6 g103 v g', ?_, ?_⟩
            · skip
              have E0 : EN s0 g := EN_fr rg (by decide) (by decide) (by decide)
              obtain ⟨Q1, N1⟩ : g30 = g ∧ (x27 = 1 ∧ isSg (toks g) 91 (g 2 7).toNat ∨ x27 = 0 ∧ ¬ isSg (toks g) 91 (g 2 7).toNat) := qg30
              have B1 := sg_q E0 N1
              have E1 : EN s0 g30 := by
                rw [Q1]
                exact E0
              obtain ⟨Q2, N2⟩ : g103 = g30 ∧ x100 = tokI (toks g30) (g30 2 7).toNat := qg103
              rw [E1.1] at N2
              have E2 : EN s0 g103 := by
                rw [Q2]
                exact E1
              have S1 : sgB (toks s0) 91 (g 2 7).toNat = false := by
                rcases B1 with ⟨z, y⟩ | ⟨z, y⟩
                · exact absurd z (by omega)
                · exact y
              have e2 : g103 = g := Q2.trans Q1
              have D2 : g103 2 7 = g 2 7 := by rw [e2]
              rw [Q1] at N2
              have h24 : tokI (toks s0) (g 2 7).toNat ≠ 24 := by omega
              exact v_1297_c6 (OWS_en hw E2) (by rw [e2]; exact hp.1)
            · skip
              intro x111 hx1111 hx1112 g114 rg114 qg114
              refine ⟨fun h116 => ?_, fun h116 => ?_⟩
              · skip
                refine ⟨fun v g' => g' = g114 ∧ (v = 1 ∧ isSg (toks g114) 60 (g114 2 7).toNat ∨ v = 0 ∧ ¬ isSg (toks g114) 60 (g114 2 7).toNat), ?_, ?_⟩
                · skip
                  exact v_1299
                · skip
                  intro x122 hx1221 hx1222 g125 rg125 qg125
                  refine ⟨fun h127 => ?_, fun h127 => ?_⟩
                  · skip
                    have E0 : EN s0 g := EN_fr rg (by decide) (by decide) (by decide)
                    obtain ⟨Q1, N1⟩ : g30 = g ∧ (x27 = 1 ∧ isSg (toks g) 91 (g 2 7).toNat ∨ x27 = 0 ∧ ¬ isSg (toks g) 91 (g 2 7).toNat) := qg30
                    have B1 := sg_q E0 N1
                    have E1 : EN s0 g30 := by
                      rw [Q1]
                      exact E0
                    obtain ⟨Q2, N2⟩ : g103 = g30 ∧ x100 = tokI (toks g30) (g30 2 7).toNat := qg103
                    rw [E1.1] at N2
                    have E2 : EN s0 g103 := by
                      rw [Q2]
                      exact E1
                    have R3 : RSp 6 g103 x111 g114 := qg114
                    have F3 : EN g103 g114 := EN_fr rg114 (by decide) (by decide) (by decide)
                    have E3 : EN s0 g114 := EN_trans E2 F3
                    obtain ⟨Q4, N4⟩ : g125 = g114 ∧ (x122 = 1 ∧ isSg (toks g114) 60 (g114 2 7).toNat ∨ x122 = 0 ∧ ¬ isSg (toks g114) 60 (g114 2 7).toNat) := qg125
                    have B4 := sg_q E3 N4
                    have E4 : EN s0 g125 := by
                      rw [Q4]
                      exact E3
                    have S1 : sgB (toks s0) 91 (g 2 7).toNat = false := by
                      rcases B1 with ⟨z, y⟩ | ⟨z, y⟩
                      · exact absurd z (by omega)
                      · exact y
                    have S4 : sgB (toks s0) 60 (g114 2 7).toNat = true := by
                      rcases B4 with ⟨z, y⟩ | ⟨z, y⟩
                      · exact y
                      · exact absurd z (by omega)
                    have e2 : g103 = g := Q2.trans Q1
                    have D2 : g103 2 7 = g 2 7 := by rw [e2]
                    rw [Q1] at N2
                    have h24 : tokI (toks s0) (g 2 7).toNat ≠ 24 := by omega
                    rw [e2] at R3 F3
                    have M3 : CM1 6 s0 g114 := FPR_sum hp h23 h24 S1 R3 F3 (by omega) (by omega) (by omega)
                    have hb3 := TW_b M3.1
                    have lt3 : g 2 7 < g114 2 7 := (R3.1 (by omega)).1
                    rw [Q4]
                    exact ⟨_, by omega, rfl, M3, fun _ => cmB_3 (Or.inl S4), fun z => absurd z (by decide)⟩
                  · skip
                    refine ⟨fun v g' => g' = g125 ∧ (v = 1 ∧ isSg (toks g125) 62 (g125 2 7).toNat ∨ v = 0 ∧ ¬ isSg (toks g125) 62 (g125 2 7).toNat), ?_, ?_⟩
                    · skip
                      exact v_1299
                    · skip
                      intro x133 hx1331 hx1332 g136 rg136 qg136
                      refine ⟨fun h138 => ?_, fun h138 => ?_⟩
                      · skip
                        have E0 : EN s0 g := EN_fr rg (by decide) (by decide) (by decide)
                        obtain ⟨Q1, N1⟩ : g30 = g ∧ (x27 = 1 ∧ isSg (toks g) 91 (g 2 7).toNat ∨ x27 = 0 ∧ ¬ isSg (toks g) 91 (g 2 7).toNat) := qg30
                        have B1 := sg_q E0 N1
                        have E1 : EN s0 g30 := by
                          rw [Q1]
                          exact E0
                        obtain ⟨Q2, N2⟩ : g103 = g30 ∧ x100 = tokI (toks g30) (g30 2 7).toNat := qg103
                        rw [E1.1] at N2
                        have E2 : EN s0 g103 := by
                          rw [Q2]
                          exact E1
                        have R3 : RSp 6 g103 x111 g114 := qg114
                        have F3 : EN g103 g114 := EN_fr rg114 (by decide) (by decide) (by decide)
                        have E3 : EN s0 g114 := EN_trans E2 F3
                        obtain ⟨Q4, N4⟩ : g125 = g114 ∧ (x122 = 1 ∧ isSg (toks g114) 60 (g114 2 7).toNat ∨ x122 = 0 ∧ ¬ isSg (toks g114) 60 (g114 2 7).toNat) := qg125
                        have B4 := sg_q E3 N4
                        have E4 : EN s0 g125 := by
                          rw [Q4]
                          exact E3
                        obtain ⟨Q5, N5⟩ : g136 = g125 ∧ (x133 = 1 ∧ isSg (toks g125) 62 (g125 2 7).toNat ∨ x133 = 0 ∧ ¬ isSg (toks g125) 62 (g125 2 7).toNat) := qg136
                        have B5 := sg_q E4 N5
                        have E5 : EN s0 g136 := by
                          rw [Q5]
                          exact E4
                        have S1 : sgB (toks s0) 91 (g 2 7).toNat = false := by
                          rcases B1 with ⟨z, y⟩ | ⟨z, y⟩
                          · exact absurd z (by omega)
                          · exact y
                        have S4 : sgB (toks s0) 60 (g114 2 7).toNat = false := by
                          rcases B4 with ⟨z, y⟩ | ⟨z, y⟩
                          · exact absurd z (by omega)
                          · exact y
                        have S5 : sgB (toks s0) 62 (g125 2 7).toNat = true := by
                          rcases B5 with ⟨z, y⟩ | ⟨z, y⟩
                          · exact y
                          · exact absurd z (by omega)
                        have e2 : g103 = g := Q2.trans Q1
                        have D2 : g103 2 7 = g 2 7 := by rw [e2]
                        rw [Q1] at N2
                        have h24 : tokI (toks s0) (g 2 7).toNat ≠ 24 := by omega
                        rw [e2] at R3 F3
                        have M3 : CM1 6 s0 g114 := FPR_sum hp h23 h24 S1 R3 F3 (by omega) (by omega) (by omega)
                        have hb3 := TW_b M3.1
                        have lt3 : g 2 7 < g114 2 7 := (R3.1 (by omega)).1
                        rw [Q4] at S5
                        rw [Q5, Q4]
                        exact ⟨_, by omega, rfl, M3, fun _ => cmB_3 (Or.inr (Or.inl S5)), fun z => absurd z (by decide)⟩
                      · skip
                        refine ⟨fun v g' => g' = g136 ∧ (v = 1 ∧ isSg (toks g136) 61 (g136 2 7).toNat ∨ v = 0 ∧ ¬ isSg (toks g136) 61 (g136 2 7).toNat), ?_, ?_⟩
                        · skip
                          exact v_1299
                        · skip
                          intro x144 hx1441 hx1442 g147 rg147 qg147
                          refine ⟨fun h149 => ?_, fun h149 => ?_⟩
                          · skip
                            have E0 : EN s0 g := EN_fr rg (by decide) (by decide) (by decide)
                            obtain ⟨Q1, N1⟩ : g30 = g ∧ (x27 = 1 ∧ isSg (toks g) 91 (g 2 7).toNat ∨ x27 = 0 ∧ ¬ isSg (toks g) 91 (g 2 7).toNat) := qg30
                            have B1 := sg_q E0 N1
                            have E1 : EN s0 g30 := by
                              rw [Q1]
                              exact E0
                            obtain ⟨Q2, N2⟩ : g103 = g30 ∧ x100 = tokI (toks g30) (g30 2 7).toNat := qg103
                            rw [E1.1] at N2
                            have E2 : EN s0 g103 := by
                              rw [Q2]
                              exact E1
                            have R3 : RSp 6 g103 x111 g114 := qg114
                            have F3 : EN g103 g114 := EN_fr rg114 (by decide) (by decide) (by decide)
                            have E3 : EN s0 g114 := EN_trans E2 F3
                            obtain ⟨Q4, N4⟩ : g125 = g114 ∧ (x122 = 1 ∧ isSg (toks g114) 60 (g114 2 7).toNat ∨ x122 = 0 ∧ ¬ isSg (toks g114) 60 (g114 2 7).toNat) := qg125
                            have B4 := sg_q E3 N4
                            have E4 : EN s0 g125 := by
                              rw [Q4]
                              exact E3
                            obtain ⟨Q5, N5⟩ : g136 = g125 ∧ (x133 = 1 ∧ isSg (toks g125) 62 (g125 2 7).toNat ∨ x133 = 0 ∧ ¬ isSg (toks g125) 62 (g125 2 7).toNat) := qg136
                            have B5 := sg_q E4 N5
                            have E5 : EN s0 g136 := by
                              rw [Q5]
                              exact E4
                            obtain ⟨Q6, N6⟩ : g147 = g136 ∧ (x144 = 1 ∧ isSg (toks g136) 61 (g136 2 7).toNat ∨ x144 = 0 ∧ ¬ isSg (toks g136) 61 (g136 2 7).toNat) := qg147
                            have B6 := sg_q E5 N6
                            have E6 : EN s0 g147 := by
                              rw [Q6]
                              exact E5
                            have S1 : sgB (toks s0) 91 (g 2 7).toNat = false := by
                              rcases B1 with ⟨z, y⟩ | ⟨z, y⟩
                              · exact absurd z (by omega)
                              · exact y
                            have S4 : sgB (toks s0) 60 (g114 2 7).toNat = false := by
                              rcases B4 with ⟨z, y⟩ | ⟨z, y⟩
                              · exact absurd z (by omega)
                              · exact y
                            have S5 : sgB (toks s0) 62 (g125 2 7).toNat = false := by
                              rcases B5 with ⟨z, y⟩ | ⟨z, y⟩
                              · exact absurd z (by omega)
                              · exact y
                            have S6 : sgB (toks s0) 61 (g136 2 7).toNat = true := by
                              rcases B6 with ⟨z, y⟩ | ⟨z, y⟩
                              · exact y
                              · exact absurd z (by omega)
                            have e2 : g103 = g := Q2.trans Q1
                            have D2 : g103 2 7 = g 2 7 := by rw [e2]
                            rw [Q1] at N2
                            have h24 : tokI (toks s0) (g 2 7).toNat ≠ 24 := by omega
                            rw [e2] at R3 F3
                            have M3 : CM1 6 s0 g114 := FPR_sum hp h23 h24 S1 R3 F3 (by omega) (by omega) (by omega)
                            have hb3 := TW_b M3.1
                            have lt3 : g 2 7 < g114 2 7 := (R3.1 (by omega)).1
                            rw [Q4] at S5
                            rw [Q5, Q4] at S6
                            rw [Q6, Q5, Q4]
                            exact ⟨_, by omega, rfl, M3, fun _ => cmB_3 (Or.inr (Or.inr S6)), fun z => absurd z (by decide)⟩
                          · skip
                            have E0 : EN s0 g := EN_fr rg (by decide) (by decide) (by decide)
                            obtain ⟨Q1, N1⟩ : g30 = g ∧ (x27 = 1 ∧ isSg (toks g) 91 (g 2 7).toNat ∨ x27 = 0 ∧ ¬ isSg (toks g) 91 (g 2 7).toNat) := qg30
                            have B1 := sg_q E0 N1
                            have E1 : EN s0 g30 := by
                              rw [Q1]
                              exact E0
                            obtain ⟨Q2, N2⟩ : g103 = g30 ∧ x100 = tokI (toks g30) (g30 2 7).toNat := qg103
                            rw [E1.1] at N2
                            have E2 : EN s0 g103 := by
                              rw [Q2]
                              exact E1
                            have R3 : RSp 6 g103 x111 g114 := qg114
                            have F3 : EN g103 g114 := EN_fr rg114 (by decide) (by decide) (by decide)
                            have E3 : EN s0 g114 := EN_trans E2 F3
                            obtain ⟨Q4, N4⟩ : g125 = g114 ∧ (x122 = 1 ∧ isSg (toks g114) 60 (g114 2 7).toNat ∨ x122 = 0 ∧ ¬ isSg (toks g114) 60 (g114 2 7).toNat) := qg125
                            have B4 := sg_q E3 N4
                            have E4 : EN s0 g125 := by
                              rw [Q4]
                              exact E3
                            obtain ⟨Q5, N5⟩ : g136 = g125 ∧ (x133 = 1 ∧ isSg (toks g125) 62 (g125 2 7).toNat ∨ x133 = 0 ∧ ¬ isSg (toks g125) 62 (g125 2 7).toNat) := qg136
                            have B5 := sg_q E4 N5
                            have E5 : EN s0 g136 := by
                              rw [Q5]
                              exact E4
                            obtain ⟨Q6, N6⟩ : g147 = g136 ∧ (x144 = 1 ∧ isSg (toks g136) 61 (g136 2 7).toNat ∨ x144 = 0 ∧ ¬ isSg (toks g136) 61 (g136 2 7).toNat) := qg147
                            have B6 := sg_q E5 N6
                            have E6 : EN s0 g147 := by
                              rw [Q6]
                              exact E5
                            have S1 : sgB (toks s0) 91 (g 2 7).toNat = false := by
                              rcases B1 with ⟨z, y⟩ | ⟨z, y⟩
                              · exact absurd z (by omega)
                              · exact y
                            have S4 : sgB (toks s0) 60 (g114 2 7).toNat = false := by
                              rcases B4 with ⟨z, y⟩ | ⟨z, y⟩
                              · exact absurd z (by omega)
                              · exact y
                            have S5 : sgB (toks s0) 62 (g125 2 7).toNat = false := by
                              rcases B5 with ⟨z, y⟩ | ⟨z, y⟩
                              · exact absurd z (by omega)
                              · exact y
                            have S6 : sgB (toks s0) 61 (g136 2 7).toNat = false := by
                              rcases B6 with ⟨z, y⟩ | ⟨z, y⟩
                              · exact absurd z (by omega)
                              · exact y
                            have e2 : g103 = g := Q2.trans Q1
                            have D2 : g103 2 7 = g 2 7 := by rw [e2]
                            rw [Q1] at N2
                            have h24 : tokI (toks s0) (g 2 7).toNat ≠ 24 := by omega
                            rw [e2] at R3 F3
                            have M3 : CM1 6 s0 g114 := FPR_sum hp h23 h24 S1 R3 F3 (by omega) (by omega) (by omega)
                            have hb3 := TW_b M3.1
                            have lt3 : g 2 7 < g114 2 7 := (R3.1 (by omega)).1
                            rw [Q4] at S5
                            rw [Q5, Q4] at S6
                            rw [Q6, Q5, Q4]
                            exact ⟨_, by omega, rfl, M3, fun z => absurd rfl z, fun _ => cmB_0 S4 S5 S6⟩
              · skip
                have E0 : EN s0 g := EN_fr rg (by decide) (by decide) (by decide)
                obtain ⟨Q1, N1⟩ : g30 = g ∧ (x27 = 1 ∧ isSg (toks g) 91 (g 2 7).toNat ∨ x27 = 0 ∧ ¬ isSg (toks g) 91 (g 2 7).toNat) := qg30
                have B1 := sg_q E0 N1
                have E1 : EN s0 g30 := by
                  rw [Q1]
                  exact E0
                obtain ⟨Q2, N2⟩ : g103 = g30 ∧ x100 = tokI (toks g30) (g30 2 7).toNat := qg103
                rw [E1.1] at N2
                have E2 : EN s0 g103 := by
                  rw [Q2]
                  exact E1
                have R3 : RSp 6 g103 x111 g114 := qg114
                have F3 : EN g103 g114 := EN_fr rg114 (by decide) (by decide) (by decide)
                have E3 : EN s0 g114 := EN_trans E2 F3
                have S1 : sgB (toks s0) 91 (g 2 7).toNat = false := by
                  rcases B1 with ⟨z, y⟩ | ⟨z, y⟩
                  · exact absurd z (by omega)
                  · exact y
                have e2 : g103 = g := Q2.trans Q1
                have D2 : g103 2 7 = g 2 7 := by rw [e2]
                rw [Q1] at N2
                have h24 : tokI (toks s0) (g 2 7).toNat ≠ 24 := by omega
                rw [e2] at R3
                exact FPR_sum0 hp h23 h24 S1 R3 (by omega)
          · skip
            refine ⟨fun g' => g' = stp g103, ?_, ?_⟩
            · skip
              exact v_1289
            · skip
              intro g155 rg155 qg155
              intro b157 eb157 fb157
              refine ⟨fun _ => True, ?_, ?_⟩
              · skip
                exact v_515
              · skip
                intro g166 rg166 qg166
                intro x168 ex168 fx168 gx168
                refine ⟨fun h172 => ?_, fun h172 => ?_⟩
                · skip
                  have E0 : EN s0 g := EN_fr rg (by decide) (by decide) (by decide)
                  obtain ⟨Q1, N1⟩ : g30 = g ∧ (x27 = 1 ∧ isSg (toks g) 91 (g 2 7).toNat ∨ x27 = 0 ∧ ¬ isSg (toks g) 91 (g 2 7).toNat) := qg30
                  have B1 := sg_q E0 N1
                  have E1 : EN s0 g30 := by
                    rw [Q1]
                    exact E0
                  obtain ⟨Q2, N2⟩ : g103 = g30 ∧ x100 = tokI (toks g30) (g30 2 7).toNat := qg103
                  rw [E1.1] at N2
                  have E2 : EN s0 g103 := by
                    rw [Q2]
                    exact E1
                  have T3 : g155 = stp g103 := qg155
                  have E3 : EN s0 g155 := EN_trans E2 (EN_fr rg155 (by decide) (by decide) (by decide))
                  have Z4 : EN g155 g166 ∧ g166 2 = g155 2 := by
                    first
                      | exact EN_put fb157 rg166
                  have E4 : EN s0 g166 := EN_trans E3 Z4.1
                  have S1 : sgB (toks s0) 91 (g 2 7).toNat = false := by
                    rcases B1 with ⟨z, y⟩ | ⟨z, y⟩
                    · exact absurd z (by omega)
                    · exact y
                  rw [Q1] at N2
                  rw [Q2, Q1] at T3
                  have P3 : FPO 6 s0 g155 := FPR_all hp (by omega) T3
                  have P4 := FPO_en P3 Z4.1 Z4.2
                  exact FPO_fact P4
                · skip
                  refine ⟨fun _ => True, ?_, ?_⟩
                  · skip
                    exact v_515
                  · skip
                    intro g179 rg179 qg179
                    have E0 : EN s0 g := EN_fr rg (by decide) (by decide) (by decide)
                    obtain ⟨Q1, N1⟩ : g30 = g ∧ (x27 = 1 ∧ isSg (toks g) 91 (g 2 7).toNat ∨ x27 = 0 ∧ ¬ isSg (toks g) 91 (g 2 7).toNat) := qg30
                    have B1 := sg_q E0 N1
                    have E1 : EN s0 g30 := by
                      rw [Q1]
                      exact E0
                    obtain ⟨Q2, N2⟩ : g103 = g30 ∧ x100 = tokI (toks g30) (g30 2 7).toNat := qg103
                    rw [E1.1] at N2
                    have E2 : EN s0 g103 := by
                      rw [Q2]
                      exact E1
                    have T3 : g155 = stp g103 := qg155
                    have E3 : EN s0 g155 := EN_trans E2 (EN_fr rg155 (by decide) (by decide) (by decide))
                    have Z4 : EN g155 g166 ∧ g166 2 = g155 2 := by
                      first
                        | exact EN_put fb157 rg166
                    have E4 : EN s0 g166 := EN_trans E3 Z4.1
                    have Z5 : EN g166 g179 ∧ g179 2 = g166 2 := by
                      first
                        | exact EN_put fb157 rg179
                    have E5 : EN s0 g179 := EN_trans E4 Z5.1
                    have S1 : sgB (toks s0) 91 (g 2 7).toNat = false := by
                      rcases B1 with ⟨z, y⟩ | ⟨z, y⟩
                      · exact absurd z (by omega)
                      · exact y
                    rw [Q1] at N2
                    rw [Q2, Q1] at T3
                    have P3 : FPO 6 s0 g155 := FPR_all hp (by omega) T3
                    have P4 := FPO_en P3 Z4.1 Z4.2
                    have P5 := FPO_en P4 Z5.1 Z5.2
                    exact FPO_fact P5
  · intro n g v167_2 s167_0 rg qv167_20 qv167_21 qs167_00 qs167_01 hI
    obtain ⟨hn, hp, hs1, hs0⟩ := hI
    have hb := TW_b hp.1
    refine ⟨fun h181 => ?_, fun h181 => ?_⟩
    · skip
      refine ⟨fun g' => g' = stp g, ?_, ?_⟩
      · skip
        exact v_1289
      · skip
        intro g187 rg187 qg187
        refine ⟨fun v g' => RSp 6 g187 v g', ?_, ?_⟩
        · skip
          have E0 : EN s0 g := EN_fr rg (by decide) (by decide) (by decide)
          have T1 : g187 = stp g := qg187
          have E1 : EN s0 g187 := EN_trans E0 (EN_fr rg187 (by decide) (by decide) (by decide))
          have O1 : CM2 6 s0 g187 := CM1_cmp hp (hs1 (by omega)) T1
          exact v_1297_c6 (OWS_en hw E1) O1.1
        · skip
          intro x194 hx1941 hx1942 g197 rg197 qg197
          refine ⟨fun h199 => ?_, fun h199 => ?_⟩
          · skip
            intro b200 eb200 fb200
            refine ⟨fun _ => True, ?_, ?_⟩
            · skip
              exact v_515
            · skip
              intro g209 rg209 qg209
              intro x211 ex211 fx211 gx211
              refine ⟨fun h215 => ?_, fun h215 => ?_⟩
              · skip
                have E0 : EN s0 g := EN_fr rg (by decide) (by decide) (by decide)
                have T1 : g187 = stp g := qg187
                have E1 : EN s0 g187 := EN_trans E0 (EN_fr rg187 (by decide) (by decide) (by decide))
                have R2 : RSp 6 g187 x194 g197 := qg197
                have F2 : EN g187 g197 := EN_fr rg197 (by decide) (by decide) (by decide)
                have E2 : EN s0 g197 := EN_trans E1 F2
                have Z3 : EN g197 g209 ∧ g209 2 = g197 2 := by
                  first
                    | exact EN_put fb200 rg209
                have E3 : EN s0 g209 := EN_trans E2 Z3.1
                have O1 : CM2 6 s0 g187 := CM1_cmp hp (hs1 (by omega)) T1
                have P2 : FPO 6 s0 g197 := CM2_sum O1 R2 F2 (by omega) (by omega) (by omega)
                have P3 := FPO_en P2 Z3.1 Z3.2
                exact FPO_fact P3
              · skip
                refine ⟨fun _ => True, ?_, ?_⟩
                · skip
                  exact v_515
                · skip
                  intro g222 rg222 qg222
                  have E0 : EN s0 g := EN_fr rg (by decide) (by decide) (by decide)
                  have T1 : g187 = stp g := qg187
                  have E1 : EN s0 g187 := EN_trans E0 (EN_fr rg187 (by decide) (by decide) (by decide))
                  have R2 : RSp 6 g187 x194 g197 := qg197
                  have F2 : EN g187 g197 := EN_fr rg197 (by decide) (by decide) (by decide)
                  have E2 : EN s0 g197 := EN_trans E1 F2
                  have Z3 : EN g197 g209 ∧ g209 2 = g197 2 := by
                    first
                      | exact EN_put fb200 rg209
                  have E3 : EN s0 g209 := EN_trans E2 Z3.1
                  have Z4 : EN g209 g222 ∧ g222 2 = g209 2 := by
                    first
                      | exact EN_put fb200 rg222
                  have E4 : EN s0 g222 := EN_trans E3 Z4.1
                  have O1 : CM2 6 s0 g187 := CM1_cmp hp (hs1 (by omega)) T1
                  have P2 : FPO 6 s0 g197 := CM2_sum O1 R2 F2 (by omega) (by omega) (by omega)
                  have P3 := FPO_en P2 Z3.1 Z3.2
                  have P4 := FPO_en P3 Z4.1 Z4.2
                  exact FPO_fact P4
          · skip
            have E0 : EN s0 g := EN_fr rg (by decide) (by decide) (by decide)
            have T1 : g187 = stp g := qg187
            have E1 : EN s0 g187 := EN_trans E0 (EN_fr rg187 (by decide) (by decide) (by decide))
            have R2 : RSp 6 g187 x194 g197 := qg197
            have F2 : EN g187 g197 := EN_fr rg197 (by decide) (by decide) (by decide)
            have E2 : EN s0 g197 := EN_trans E1 F2
            have O1 : CM2 6 s0 g187 := CM1_cmp hp (hs1 (by omega)) T1
            exact CM2_sum0 O1 R2 (by omega)
    · skip
      refine ⟨fun _ g' => (g' 2 0, g' 2 1) = ((1 : Int), if (1 : Int) = 1 ∧ g 4 (g 2 7).toNat = 1 then g 5 (g 2 7).toNat else g 6 (g 2 7).toNat), ?_, ?_⟩
      · skip
        exact v_1286
      · skip
        intro x229 hx2291 hx2292 g232 rg232 qg232
        have E0 : EN s0 g := EN_fr rg (by decide) (by decide) (by decide)
        have X1 : (g232 2 0, g232 2 1) = ((1 : Int), if (1 : Int) = 1 ∧ g 4 (g 2 7).toNat = 1 then g 5 (g 2 7).toNat else g 6 (g 2 7).toNat) := qg232
        have E1 : EN s0 g232 := EN_trans E0 (EN_fr rg232 (by decide) (by decide) (by decide))
        have Y1 := flt_q X1
        rw [E0.1] at Y1
        exact CM1_none hp (hs0 (by omega)) (by omega) Y1
set_option maxHeartbeats 4000000 in
theorem v_1300_c6 {s0 : zF} (hw : OWS s0) (ht : TW s0) : b_1300_c6 s0 (fun v g => RTp 6 s0 v g) := by
  refine ⟨fun n g v2_2 => n = (20 * (2000 - g 2 7) + 9).toNat ∧ FPR 6 s0 g ∧ v2_2 ≤ g 2 7, fun n g v11_2 v11_3 => n = (20 * (2000 - g 2 7) + 8).toNat ∧ FPR 6 s0 g ∧ v11_2 ≤ g 2 7 ∧ v11_3 ≤ g 2 7, fun n g v44_2 v44_3 => n = (20 * (2000 - g 2 7) + 7).toNat ∧ FPO 6 s0 g ∧ v44_2 ≤ g 2 7 ∧ v44_3 ≤ g 2 7, fun n g v66_2 => n = (20 * (2000 - g 2 7) + 6).toNat ∧ FPO 6 s0 g ∧ v66_2 ≤ g 2 7 ∧ tokI (toks s0) (g 2 7).toNat ≠ 22, ?_, ?_, ?_, ?_, ?_⟩
  · skip
    exact ⟨_, rfl, FPR_0 ht, by have := TW_b ht; omega⟩
  · intro n g v2_2 rg qv2_20 qv2_21 hI
    obtain ⟨hn, hp, h3⟩ := hI
    have hb := TW_b hp.1
    refine ⟨fun h1 => ?_, fun h1 => ?_⟩
    · skip
      exfalso
      omega
    · skip
      exact ⟨_, by omega, rfl, hp, h3, by omega⟩
  · intro n g v11_2 v11_3 rg qv11_20 qv11_21 qv11_30 qv11_31 hI
    obtain ⟨hn, hp, h3, h5⟩ := hI
    have hb := TW_b hp.1
    refine ⟨fun h2 => ?_, fun h2 => ?_⟩
    · skip
      exfalso
      omega
    · skip
      refine ⟨fun v g' => RFp 6 g v g', ?_, ?_⟩
      · skip
        have E0 : EN s0 g := EN_fr rg (by decide) (by decide) (by decide)
        exact v_1301_c6 (OWS_en hw E0) hp.1
      · skip
        intro x8 hx81 hx82 g11 rg11 qg11
        refine ⟨fun h13 => ?_, fun h13 => ?_⟩
        · skip
          refine ⟨fun h14 => ?_, fun h14 => ?_⟩
          · skip
            intro b15 eb15 fb15
            refine ⟨fun _ => True, ?_, ?_⟩
            · skip
              exact v_515
            · skip
              intro g24 rg24 qg24
              have E0 : EN s0 g := EN_fr rg (by decide) (by decide) (by decide)
              have R1 : RFp 6 g x8 g11 := qg11
              have F1 : EN g g11 := EN_fr rg11 (by decide) (by decide) (by decide)
              have E1 : EN s0 g11 := EN_trans E0 F1
              have Z2 : EN g11 g24 ∧ g24 2 = g11 2 := by
                first
                  | exact EN_put fb15 rg24
              have E2 : EN s0 g24 := EN_trans E1 Z2.1
              obtain ⟨p1, p2⟩ := FPR_fact hp R1 F1 (by omega) (by omega) (by omega)
              have p3 := FPO_en p1 Z2.1 Z2.2
              have e7 : g24 2 7 = g11 2 7 := by rw [Z2.2]
              exact ⟨_, by omega, rfl, p3, by omega, by omega⟩
          · skip
            have E0 : EN s0 g := EN_fr rg (by decide) (by decide) (by decide)
            have R1 : RFp 6 g x8 g11 := qg11
            have F1 : EN g g11 := EN_fr rg11 (by decide) (by decide) (by decide)
            have E1 : EN s0 g11 := EN_trans E0 F1
            obtain ⟨p1, p2⟩ := FPR_fact hp R1 F1 (by omega) (by omega) (by omega)
            exact ⟨_, by omega, rfl, p1, by omega, by omega⟩
        · skip
          have E0 : EN s0 g := EN_fr rg (by decide) (by decide) (by decide)
          have R1 : RFp 6 g x8 g11 := qg11
          have F1 : EN g g11 := EN_fr rg11 (by decide) (by decide) (by decide)
          have E1 : EN s0 g11 := EN_trans E0 F1
          exact FPR_fact0 hp R1 (by omega)
  · intro n g v44_2 v44_3 rg qv44_20 qv44_21 qv44_30 qv44_31 hI
    obtain ⟨hn, hp, h3, h5⟩ := hI
    have hb := TW_b hp.1
    refine ⟨fun v g' => g' = g ∧ v = tokI (toks g) (g 2 7).toNat, ?_, ?_⟩
    · skip
      have E0 : EN s0 g := EN_fr rg (by decide) (by decide) (by decide)
      exact v_1287 (OWS_en hw E0)
    · skip
      intro x31 hx311 hx312 g34 rg34 qg34
      refine ⟨fun h36 => ?_, fun h36 => ?_⟩
      · skip
        have E0 : EN s0 g := EN_fr rg (by decide) (by decide) (by decide)
        obtain ⟨Q1, N1⟩ : g34 = g ∧ x31 = tokI (toks g) (g 2 7).toNat := qg34
        rw [E0.1] at N1
        have E1 : EN s0 g34 := by
          rw [Q1]
          exact E0
        rw [Q1]
        exact ⟨_, by omega, rfl, hp, h3, by omega⟩
      · skip
        refine ⟨fun g' => g' = stp g34, ?_, ?_⟩
        · skip
          exact v_1289
        · skip
          intro g42 rg42 qg42
          intro x44 ex44
          have E0 : EN s0 g := EN_fr rg (by decide) (by decide) (by decide)
          obtain ⟨Q1, N1⟩ : g34 = g ∧ x31 = tokI (toks g) (g 2 7).toNat := qg34
          rw [E0.1] at N1
          have E1 : EN s0 g34 := by
            rw [Q1]
            exact E0
          have T2 : g42 = stp g34 := qg42
          have E2 : EN s0 g42 := EN_trans E1 (EN_fr rg42 (by decide) (by decide) (by decide))
          rw [Q1] at T2
          obtain ⟨p1, p2⟩ := FPO_ao hp (Or.inl (by omega)) T2
          exact ⟨_, by omega, rfl, p1, by omega, by omega⟩
  · intro n g v66_2 rg qv66_20 qv66_21 hI
    obtain ⟨hn, hp, h3, h22⟩ := hI
    have hb := TW_b hp.1
    refine ⟨fun h46 => ?_, fun h46 => ?_⟩
    · skip
      intro b47 eb47 fb47
      refine ⟨fun _ => True, ?_, ?_⟩
      · skip
        exact v_515
      · skip
        intro g56 rg56 qg56
        refine ⟨fun v g' => g' = g56 ∧ v = tokI (toks g56) (g56 2 7).toNat, ?_, ?_⟩
        · skip
          have E0 : EN s0 g := EN_fr rg (by decide) (by decide) (by decide)
          have Z1 : EN g g56 ∧ g56 2 = g 2 := by
            first
              | exact EN_put fb47 rg56
          have E1 : EN s0 g56 := EN_trans E0 Z1.1
          exact v_1287 (OWS_en hw E1)
        · skip
          intro x63 hx631 hx632 g66 rg66 qg66
          refine ⟨fun h68 => ?_, fun h68 => ?_⟩
          · skip
            have E0 : EN s0 g := EN_fr rg (by decide) (by decide) (by decide)
            have Z1 : EN g g56 ∧ g56 2 = g 2 := by
              first
                | exact EN_put fb47 rg56
            have E1 : EN s0 g56 := EN_trans E0 Z1.1
            obtain ⟨Q2, N2⟩ : g66 = g56 ∧ x63 = tokI (toks g56) (g56 2 7).toNat := qg66
            rw [E1.1] at N2
            have E2 : EN s0 g66 := by
              rw [Q2]
              exact E1
            have hq := FPO_en hp Z1.1 Z1.2
            have e7 : g56 2 7 = g 2 7 := by rw [Z1.2]
            show RTp 6 s0 1 g66
            rw [Q2]
            exact FPO_end hq (by rw [e7]; exact h22) (by omega)
          · skip
            refine ⟨fun g' => g' = stp g66, ?_, ?_⟩
            · skip
              exact v_1289
            · skip
              intro g74 rg74 qg74
              intro x76 ex76
              have E0 : EN s0 g := EN_fr rg (by decide) (by decide) (by decide)
              have Z1 : EN g g56 ∧ g56 2 = g 2 := by
                first
                  | exact EN_put fb47 rg56
              have E1 : EN s0 g56 := EN_trans E0 Z1.1
              obtain ⟨Q2, N2⟩ : g66 = g56 ∧ x63 = tokI (toks g56) (g56 2 7).toNat := qg66
              rw [E1.1] at N2
              have E2 : EN s0 g66 := by
                rw [Q2]
                exact E1
              have T3 : g74 = stp g66 := qg74
              have E3 : EN s0 g74 := EN_trans E2 (EN_fr rg74 (by decide) (by decide) (by decide))
              have hq := FPO_en hp Z1.1 Z1.2
              have e7 : g56 2 7 = g 2 7 := by rw [Z1.2]
              rw [Q2] at T3
              obtain ⟨p1, p2⟩ := FPO_ao hq (Or.inr (by omega)) T3
              exact ⟨_, by omega, rfl, p1, by omega⟩
    · skip
      refine ⟨fun v g' => g' = g ∧ v = tokI (toks g) (g 2 7).toNat, ?_, ?_⟩
      · skip
        have E0 : EN s0 g := EN_fr rg (by decide) (by decide) (by decide)
        exact v_1287 (OWS_en hw E0)
      · skip
        intro x83 hx831 hx832 g86 rg86 qg86
        refine ⟨fun h88 => ?_, fun h88 => ?_⟩
        · skip
          have E0 : EN s0 g := EN_fr rg (by decide) (by decide) (by decide)
          obtain ⟨Q1, N1⟩ : g86 = g ∧ x83 = tokI (toks g) (g 2 7).toNat := qg86
          rw [E0.1] at N1
          have E1 : EN s0 g86 := by
            rw [Q1]
            exact E0
          show RTp 6 s0 1 g86
          rw [Q1]
          exact FPO_end hp h22 (by omega)
        · skip
          refine ⟨fun g' => g' = stp g86, ?_, ?_⟩
          · skip
            exact v_1289
          · skip
            intro g94 rg94 qg94
            intro x96 ex96
            have E0 : EN s0 g := EN_fr rg (by decide) (by decide) (by decide)
            obtain ⟨Q1, N1⟩ : g86 = g ∧ x83 = tokI (toks g) (g 2 7).toNat := qg86
            rw [E0.1] at N1
            have E1 : EN s0 g86 := by
              rw [Q1]
              exact E0
            have T2 : g94 = stp g86 := qg94
            have E2 : EN s0 g94 := EN_trans E1 (EN_fr rg94 (by decide) (by decide) (by decide))
            rw [Q1] at T2
            obtain ⟨p1, p2⟩ := FPO_ao hp (Or.inr (by omega)) T2
            exact ⟨_, by omega, rfl, p1, by omega⟩
set_option maxHeartbeats 4000000 in
theorem v_1301_c5 {s0 : zF} (hw : OWS s0) (ht : TW s0) : b_1301_c5 s0 (fun v g => RFp 5 s0 v g) := by
  refine ⟨fun n g v2_2 => n = (20 * (2000 - g 2 7) + 9).toNat ∧ FPR 5 s0 g ∧ v2_2 ≤ g 2 7, fun n g v28_2 => n = (20 * (2000 - g 2 7) + 5).toNat ∧ FPR 5 s0 g ∧ tokI (toks s0) (g 2 7).toNat ≠ 23, fun n g v167_2 s167_0 => n = (20 * (2000 - g 2 7) + 3).toNat ∧ CM1 5 s0 g ∧ (¬ s167_0 = 0 → cmB (toks s0) (g 2 7).toNat = true) ∧ (s167_0 = 0 → cmB (toks s0) (g 2 7).toNat = false), ?_, ?_, ?_, ?_⟩
  · skip
    exact ⟨_, rfl, FPR_0 ht, by have := TW_b ht; omega⟩
  · intro n g v2_2 rg qv2_20 qv2_21 hI
    obtain ⟨hn, hp, h3⟩ := hI
    have hb := TW_b hp.1
    refine ⟨fun h1 => ?_, fun h1 => ?_⟩
    · skip
      exfalso
      omega
    · skip
      refine ⟨fun v g' => g' = g ∧ v = tokI (toks g) (g 2 7).toNat, ?_, ?_⟩
      · skip
        have E0 : EN s0 g := EN_fr rg (by decide) (by decide) (by decide)
        exact v_1287 (OWS_en hw E0)
      · skip
        intro x7 hx71 hx72 g10 rg10 qg10
        refine ⟨fun h12 => ?_, fun h12 => ?_⟩
        · skip
          have E0 : EN s0 g := EN_fr rg (by decide) (by decide) (by decide)
          obtain ⟨Q1, N1⟩ : g10 = g ∧ x7 = tokI (toks g) (g 2 7).toNat := qg10
          rw [E0.1] at N1
          have E1 : EN s0 g10 := by
            rw [Q1]
            exact E0
          rw [Q1]
          exact ⟨_, by omega, rfl, hp, by omega⟩
        · skip
          refine ⟨fun g' => g' = stp g10, ?_, ?_⟩
          · skip
            exact v_1289
          · skip
            intro g18 rg18 qg18
            intro x20 ex20
            have E0 : EN s0 g := EN_fr rg (by decide) (by decide) (by decide)
            obtain ⟨Q1, N1⟩ : g10 = g ∧ x7 = tokI (toks g) (g 2 7).toNat := qg10
            rw [E0.1] at N1
            have E1 : EN s0 g10 := by
              rw [Q1]
              exact E0
            have T2 : g18 = stp g10 := qg18
            have E2 : EN s0 g18 := EN_trans E1 (EN_fr rg18 (by decide) (by decide) (by decide))
            rw [Q1] at T2
            obtain ⟨p1, p2⟩ := FPR_not hp (by omega) T2
            exact ⟨_, by omega, rfl, p1, by omega⟩
  · intro n g v28_2 rg qv28_20 qv28_21 hI
    obtain ⟨hn, hp, h23⟩ := hI
    have hb := TW_b hp.1
    refine ⟨fun v g' => g' = g ∧ (v = 1 ∧ isSg (toks g) 91 (g 2 7).toNat ∨ v = 0 ∧ ¬ isSg (toks g) 91 (g 2 7).toNat), ?_, ?_⟩
    · skip
      exact v_1299
    · skip
      intro x27 hx271 hx272 g30 rg30 qg30
      refine ⟨fun h32 => ?_, fun h32 => ?_⟩
      · skip
        refine ⟨fun g' => g' = stp g30, ?_, ?_⟩
        · skip
          exact v_1289
        · skip
          intro g38 rg38 qg38
          refine ⟨fun v g' => RTp 6 g38 v g', ?_, ?_⟩
          · skip
            have E0 : EN s0 g := EN_fr rg (by decide) (by decide) (by decide)
            obtain ⟨Q1, N1⟩ : g30 = g ∧ (x27 = 1 ∧ isSg (toks g) 91 (g 2 7).toNat ∨ x27 = 0 ∧ ¬ isSg (toks g) 91 (g 2 7).toNat) := qg30
            have B1 := sg_q E0 N1
            have E1 : EN s0 g30 := by
              rw [Q1]
              exact E0
            have T2 : g38 = stp g30 := qg38
            have E2 : EN s0 g38 := EN_trans E1 (EN_fr rg38 (by decide) (by decide) (by decide))
            have S1 : sgB (toks s0) 91 (g 2 7).toNat = true := by
              rcases B1 with ⟨z, y⟩ | ⟨z, y⟩
              · exact y
              · exact absurd z (by omega)
            rw [Q1] at T2
            have O2 : SQO 5 s0 g38 := FPR_sq hp (by decide) S1 T2
            exact v_1300_c6 (OWS_en hw E2) O2.1
          · skip
            intro x45 hx451 hx452 g48 rg48 qg48
            refine ⟨fun h50 => ?_, fun h50 => ?_⟩
            · skip
              refine ⟨fun v g' => g' = g48 ∧ (v = 1 ∧ isSg (toks g48) 93 (g48 2 7).toNat ∨ v = 0 ∧ ¬ isSg (toks g48) 93 (g48 2 7).toNat), ?_, ?_⟩
              · skip
                exact v_1299
              · skip
                intro x56 hx561 hx562 g59 rg59 qg59
                refine ⟨fun h61 => ?_, fun h61 => ?_⟩
                · skip
                  refine ⟨fun g' => g' = stp g59, ?_, ?_⟩
                  · skip
                    exact v_1289
                  · skip
                    intro g67 rg67 qg67
                    intro x69 ex69 fx69 gx69
                    refine ⟨fun h73 => ?_, fun h73 => ?_⟩
                    · skip
                      have E0 : EN s0 g := EN_fr rg (by decide) (by decide) (by decide)
                      obtain ⟨Q1, N1⟩ : g30 = g ∧ (x27 = 1 ∧ isSg (toks g) 91 (g 2 7).toNat ∨ x27 = 0 ∧ ¬ isSg (toks g) 91 (g 2 7).toNat) := qg30
                      have B1 := sg_q E0 N1
                      have E1 : EN s0 g30 := by
                        rw [Q1]
                        exact E0
                      have T2 : g38 = stp g30 := qg38
                      have E2 : EN s0 g38 := EN_trans E1 (EN_fr rg38 (by decide) (by decide) (by decide))
                      have R3 : RTp 6 g38 x45 g48 := qg48
                      have F3 : EN g38 g48 := EN_fr rg48 (by decide) (by decide) (by decide)
                      have E3 : EN s0 g48 := EN_trans E2 F3
                      obtain ⟨Q4, N4⟩ : g59 = g48 ∧ (x56 = 1 ∧ isSg (toks g48) 93 (g48 2 7).toNat ∨ x56 = 0 ∧ ¬ isSg (toks g48) 93 (g48 2 7).toNat) := qg59
                      have B4 := sg_q E3 N4
                      have E4 : EN s0 g59 := by
                        rw [Q4]
                        exact E3
                      have T5 : g67 = stp g59 := qg67
                      have E5 : EN s0 g67 := EN_trans E4 (EN_fr rg67 (by decide) (by decide) (by decide))
                      have S1 : sgB (toks s0) 91 (g 2 7).toNat = true := by
                        rcases B1 with ⟨z, y⟩ | ⟨z, y⟩
                        · exact y
                        · exact absurd z (by omega)
                      have S4 : sgB (toks s0) 93 (g48 2 7).toNat = true := by
                        rcases B4 with ⟨z, y⟩ | ⟨z, y⟩
                        · exact y
                        · exact absurd z (by omega)
                      rw [Q1] at T2
                      have O2 : SQO 5 s0 g38 := FPR_sq hp (by decide) S1 T2
                      have M3 : SQD 5 s0 g48 := SQO_test O2 R3 F3 (by omega) (by omega) (by omega)
                      rw [Q4] at T5
                      have P5 : FPO 5 s0 g67 := SQD_close M3 S4 T5
                      exact FPO_fact P5
                    · skip
                      intro b74 eb74 fb74
                      refine ⟨fun _ => True, ?_, ?_⟩
                      · skip
                        exact v_515
                      · skip
                        intro g83 rg83 qg83
                        have E0 : EN s0 g := EN_fr rg (by decide) (by decide) (by decide)
                        obtain ⟨Q1, N1⟩ : g30 = g ∧ (x27 = 1 ∧ isSg (toks g) 91 (g 2 7).toNat ∨ x27 = 0 ∧ ¬ isSg (toks g) 91 (g 2 7).toNat) := qg30
                        have B1 := sg_q E0 N1
                        have E1 : EN s0 g30 := by
                          rw [Q1]
                          exact E0
                        have T2 : g38 = stp g30 := qg38
                        have E2 : EN s0 g38 := EN_trans E1 (EN_fr rg38 (by decide) (by decide) (by decide))
                        have R3 : RTp 6 g38 x45 g48 := qg48
                        have F3 : EN g38 g48 := EN_fr rg48 (by decide) (by decide) (by decide)
                        have E3 : EN s0 g48 := EN_trans E2 F3
                        obtain ⟨Q4, N4⟩ : g59 = g48 ∧ (x56 = 1 ∧ isSg (toks g48) 93 (g48 2 7).toNat ∨ x56 = 0 ∧ ¬ isSg (toks g48) 93 (g48 2 7).toNat) := qg59
                        have B4 := sg_q E3 N4
                        have E4 : EN s0 g59 := by
                          rw [Q4]
                          exact E3
                        have T5 : g67 = stp g59 := qg67
                        have E5 : EN s0 g67 := EN_trans E4 (EN_fr rg67 (by decide) (by decide) (by decide))
                        have Z6 : EN g67 g83 ∧ g83 2 = g67 2 := by
                          first
                            | exact EN_put fb74 rg83
                        have E6 : EN s0 g83 := EN_trans E5 Z6.1
                        have S1 : sgB (toks s0) 91 (g 2 7).toNat = true := by
                          rcases B1 with ⟨z, y⟩ | ⟨z, y⟩
                          · exact y
                          · exact absurd z (by omega)
                        have S4 : sgB (toks s0) 93 (g48 2 7).toNat = true := by
                          rcases B4 with ⟨z, y⟩ | ⟨z, y⟩
                          · exact y
                          · exact absurd z (by omega)
                        rw [Q1] at T2
                        have O2 : SQO 5 s0 g38 := FPR_sq hp (by decide) S1 T2
                        have M3 : SQD 5 s0 g48 := SQO_test O2 R3 F3 (by omega) (by omega) (by omega)
                        rw [Q4] at T5
                        have P5 : FPO 5 s0 g67 := SQD_close M3 S4 T5
                        have P6 := FPO_en P5 Z6.1 Z6.2
                        exact FPO_fact P6
                · skip
                  refine ⟨fun _ g' => (g' 2 0, g' 2 1) = ((1 : Int), if (1 : Int) = 1 ∧ g59 4 (g59 2 7).toNat = 1 then g59 5 (g59 2 7).toNat else g59 6 (g59 2 7).toNat), ?_, ?_⟩
                  · skip
                    exact v_1286
                  · skip
                    intro x90 hx901 hx902 g93 rg93 qg93
                    have E0 : EN s0 g := EN_fr rg (by decide) (by decide) (by decide)
                    obtain ⟨Q1, N1⟩ : g30 = g ∧ (x27 = 1 ∧ isSg (toks g) 91 (g 2 7).toNat ∨ x27 = 0 ∧ ¬ isSg (toks g) 91 (g 2 7).toNat) := qg30
                    have B1 := sg_q E0 N1
                    have E1 : EN s0 g30 := by
                      rw [Q1]
                      exact E0
                    have T2 : g38 = stp g30 := qg38
                    have E2 : EN s0 g38 := EN_trans E1 (EN_fr rg38 (by decide) (by decide) (by decide))
                    have R3 : RTp 6 g38 x45 g48 := qg48
                    have F3 : EN g38 g48 := EN_fr rg48 (by decide) (by decide) (by decide)
                    have E3 : EN s0 g48 := EN_trans E2 F3
                    obtain ⟨Q4, N4⟩ : g59 = g48 ∧ (x56 = 1 ∧ isSg (toks g48) 93 (g48 2 7).toNat ∨ x56 = 0 ∧ ¬ isSg (toks g48) 93 (g48 2 7).toNat) := qg59
                    have B4 := sg_q E3 N4
                    have E4 : EN s0 g59 := by
                      rw [Q4]
                      exact E3
                    have X5 : (g93 2 0, g93 2 1) = ((1 : Int), if (1 : Int) = 1 ∧ g59 4 (g59 2 7).toNat = 1 then g59 5 (g59 2 7).toNat else g59 6 (g59 2 7).toNat) := qg93
                    have E5 : EN s0 g93 := EN_trans E4 (EN_fr rg93 (by decide) (by decide) (by decide))
                    have S1 : sgB (toks s0) 91 (g 2 7).toNat = true := by
                      rcases B1 with ⟨z, y⟩ | ⟨z, y⟩
                      · exact y
                      · exact absurd z (by omega)
                    have S4 : sgB (toks s0) 93 (g48 2 7).toNat = false := by
                      rcases B4 with ⟨z, y⟩ | ⟨z, y⟩
                      · exact absurd z (by omega)
                      · exact y
                    rw [Q4] at X5
                    have Y5 := flt_q X5
                    rw [E3.1] at Y5
                    rw [Q1] at T2
                    have O2 : SQO 5 s0 g38 := FPR_sq hp (by decide) S1 T2
                    have M3 : SQD 5 s0 g48 := SQO_test O2 R3 F3 (by omega) (by omega) (by omega)
                    exact SQD_close0 M3 S4 (by omega) Y5
            · skip
              have E0 : EN s0 g := EN_fr rg (by decide) (by decide) (by decide)
              obtain ⟨Q1, N1⟩ : g30 = g ∧ (x27 = 1 ∧ isSg (toks g) 91 (g 2 7).toNat ∨ x27 = 0 ∧ ¬ isSg (toks g) 91 (g 2 7).toNat) := qg30
              have B1 := sg_q E0 N1
              have E1 : EN s0 g30 := by
                rw [Q1]
                exact E0
              have T2 : g38 = stp g30 := qg38
              have E2 : EN s0 g38 := EN_trans E1 (EN_fr rg38 (by decide) (by decide) (by decide))
              have R3 : RTp 6 g38 x45 g48 := qg48
              have F3 : EN g38 g48 := EN_fr rg48 (by decide) (by decide) (by decide)
              have E3 : EN s0 g48 := EN_trans E2 F3
              have S1 : sgB (toks s0) 91 (g 2 7).toNat = true := by
                rcases B1 with ⟨z, y⟩ | ⟨z, y⟩
                · exact y
                · exact absurd z (by omega)
              rw [Q1] at T2
              have O2 : SQO 5 s0 g38 := FPR_sq hp (by decide) S1 T2
              exact SQO_test0 O2 R3 (by omega)
      · skip
        refine ⟨fun v g' => g' = g30 ∧ v = tokI (toks g30) (g30 2 7).toNat, ?_, ?_⟩
        · skip
          have E0 : EN s0 g := EN_fr rg (by decide) (by decide) (by decide)
          obtain ⟨Q1, N1⟩ : g30 = g ∧ (x27 = 1 ∧ isSg (toks g) 91 (g 2 7).toNat ∨ x27 = 0 ∧ ¬ isSg (toks g) 91 (g 2 7).toNat) := qg30
          have B1 := sg_q E0 N1
          have E1 : EN s0 g30 := by
            rw [Q1]
            exact E0
          exact v_1287 (OWS_en hw E1)
        · skip
          intro x100 hx1001 hx1002 g103 rg103 qg103
          refine ⟨fun h105 => ?_, fun h105 => ?_⟩
          · skip
            refine ⟨fun v g' => RSp 5 g103 v g', ?_, ?_⟩
            · skip
              have E0 : EN s0 g := EN_fr rg (by decide) (by decide) (by decide)
              obtain ⟨Q1, N1⟩ : g30 = g ∧ (x27 = 1 ∧ isSg (toks g) 91 (g 2 7).toNat ∨ x27 = 0 ∧ ¬ isSg (toks g) 91 (g 2 7).toNat) := qg30
              have B1 := sg_q E0 N1
              have E1 : EN s0 g30 := by
                rw [Q1]
                exact E0
              obtain ⟨Q2, N2⟩ : g103 = g30 ∧ x100 = tokI (toks g30) (g30 2 7).toNat := qg103
              rw [E1.1] at N2
              have E2 : EN s0 g103 := by
                rw [Q2]
                exact E1
              have S1 : sgB (toks s0) 91 (g 2 7).toNat = false := by
                rcases B1 with ⟨z, y⟩ | ⟨z, y⟩
                · exact absurd z (by omega)
                · exact y
              have e2 : g103 = g := Q2.trans Q1
              have D2 : g103 2 7 = g 2 7 := by rw [e2]
              rw [Q1] at N2
              have h24 : tokI (toks s0) (g 2 7).toNat ≠ 24 := by omega
              exact v_1297_c5 (OWS_en hw E2) (by rw [e2]; exact hp.1)
            · skip
              intro x111 hx1111 hx1112 g114 rg114 qg114
              refine ⟨fun h116 => ?_, fun h116 => ?_⟩
              · skip
                refine ⟨fun v g' => g' = g114 ∧ (v = 1 ∧ isSg (toks g114) 60 (g114 2 7).toNat ∨ v = 0 ∧ ¬ isSg (toks g114) 60 (g114 2 7).toNat), ?_, ?_⟩
                · skip
                  exact v_1299
                · skip
                  intro x122 hx1221 hx1222 g125 rg125 qg125
                  refine ⟨fun h127 => ?_, fun h127 => ?_⟩
                  · skip
                    have E0 : EN s0 g := EN_fr rg (by decide) (by decide) (by decide)
                    obtain ⟨Q1, N1⟩ : g30 = g ∧ (x27 = 1 ∧ isSg (toks g) 91 (g 2 7).toNat ∨ x27 = 0 ∧ ¬ isSg (toks g) 91 (g 2 7).toNat) := qg30
                    have B1 := sg_q E0 N1
                    have E1 : EN s0 g30 := by
                      rw [Q1]
                      exact E0
                    obtain ⟨Q2, N2⟩ : g103 = g30 ∧ x100 = tokI (toks g30) (g30 2 7).toNat := qg103
                    rw [E1.1] at N2
                    have E2 : EN s0 g103 := by
                      rw [Q2]
                      exact E1
                    have R3 : RSp 5 g103 x111 g114 := qg114
                    have F3 : EN g103 g114 := EN_fr rg114 (by decide) (by decide) (by decide)
                    have E3 : EN s0 g114 := EN_trans E2 F3
                    obtain ⟨Q4, N4⟩ : g125 = g114 ∧ (x122 = 1 ∧ isSg (toks g114) 60 (g114 2 7).toNat ∨ x122 = 0 ∧ ¬ isSg (toks g114) 60 (g114 2 7).toNat) := qg125
                    have B4 := sg_q E3 N4
                    have E4 : EN s0 g125 := by
                      rw [Q4]
                      exact E3
                    have S1 : sgB (toks s0) 91 (g 2 7).toNat = false := by
                      rcases B1 with ⟨z, y⟩ | ⟨z, y⟩
                      · exact absurd z (by omega)
                      · exact y
                    have S4 : sgB (toks s0) 60 (g114 2 7).toNat = true := by
                      rcases B4 with ⟨z, y⟩ | ⟨z, y⟩
                      · exact y
                      · exact absurd z (by omega)
                    have e2 : g103 = g := Q2.trans Q1
                    have D2 : g103 2 7 = g 2 7 := by rw [e2]
                    rw [Q1] at N2
                    have h24 : tokI (toks s0) (g 2 7).toNat ≠ 24 := by omega
                    rw [e2] at R3 F3
                    have M3 : CM1 5 s0 g114 := FPR_sum hp h23 h24 S1 R3 F3 (by omega) (by omega) (by omega)
                    have hb3 := TW_b M3.1
                    have lt3 : g 2 7 < g114 2 7 := (R3.1 (by omega)).1
                    rw [Q4]
                    exact ⟨_, by omega, rfl, M3, fun _ => cmB_3 (Or.inl S4), fun z => absurd z (by decide)⟩
                  · skip
                    refine ⟨fun v g' => g' = g125 ∧ (v = 1 ∧ isSg (toks g125) 62 (g125 2 7).toNat ∨ v = 0 ∧ ¬ isSg (toks g125) 62 (g125 2 7).toNat), ?_, ?_⟩
                    · skip
                      exact v_1299
                    · skip
                      intro x133 hx1331 hx1332 g136 rg136 qg136
                      refine ⟨fun h138 => ?_, fun h138 => ?_⟩
                      · skip
                        have E0 : EN s0 g := EN_fr rg (by decide) (by decide) (by decide)
                        obtain ⟨Q1, N1⟩ : g30 = g ∧ (x27 = 1 ∧ isSg (toks g) 91 (g 2 7).toNat ∨ x27 = 0 ∧ ¬ isSg (toks g) 91 (g 2 7).toNat) := qg30
                        have B1 := sg_q E0 N1
                        have E1 : EN s0 g30 := by
                          rw [Q1]
                          exact E0
                        obtain ⟨Q2, N2⟩ : g103 = g30 ∧ x100 = tokI (toks g30) (g30 2 7).toNat := qg103
                        rw [E1.1] at N2
                        have E2 : EN s0 g103 := by
                          rw [Q2]
                          exact E1
                        have R3 : RSp 5 g103 x111 g114 := qg114
                        have F3 : EN g103 g114 := EN_fr rg114 (by decide) (by decide) (by decide)
                        have E3 : EN s0 g114 := EN_trans E2 F3
                        obtain ⟨Q4, N4⟩ : g125 = g114 ∧ (x122 = 1 ∧ isSg (toks g114) 60 (g114 2 7).toNat ∨ x122 = 0 ∧ ¬ isSg (toks g114) 60 (g114 2 7).toNat) := qg125
                        have B4 := sg_q E3 N4
                        have E4 : EN s0 g125 := by
                          rw [Q4]
                          exact E3
                        obtain ⟨Q5, N5⟩ : g136 = g125 ∧ (x133 = 1 ∧ isSg (toks g125) 62 (g125 2 7).toNat ∨ x133 = 0 ∧ ¬ isSg (toks g125) 62 (g125 2 7).toNat) := qg136
                        have B5 := sg_q E4 N5
                        have E5 : EN s0 g136 := by
                          rw [Q5]
                          exact E4
                        have S1 : sgB (toks s0) 91 (g 2 7).toNat = false := by
                          rcases B1 with ⟨z, y⟩ | ⟨z, y⟩
                          · exact absurd z (by omega)
                          · exact y
                        have S4 : sgB (toks s0) 60 (g114 2 7).toNat = false := by
                          rcases B4 with ⟨z, y⟩ | ⟨z, y⟩
                          · exact absurd z (by omega)
                          · exact y
                        have S5 : sgB (toks s0) 62 (g125 2 7).toNat = true := by
                          rcases B5 with ⟨z, y⟩ | ⟨z, y⟩
                          · exact y
                          · exact absurd z (by omega)
                        have e2 : g103 = g := Q2.trans Q1
                        have D2 : g103 2 7 = g 2 7 := by rw [e2]
                        rw [Q1] at N2
                        have h24 : tokI (toks s0) (g 2 7).toNat ≠ 24 := by omega
                        rw [e2] at R3 F3
                        have M3 : CM1 5 s0 g114 := FPR_sum hp h23 h24 S1 R3 F3 (by omega) (by omega) (by omega)
                        have hb3 := TW_b M3.1
                        have lt3 : g 2 7 < g114 2 7 := (R3.1 (by omega)).1
                        rw [Q4] at S5
                        rw [Q5, Q4]
                        exact ⟨_, by omega, rfl, M3, fun _ => cmB_3 (Or.inr (Or.inl S5)), fun z => absurd z (by decide)⟩
                      · skip
                        refine ⟨fun v g' => g' = g136 ∧ (v = 1 ∧ isSg (toks g136) 61 (g136 2 7).toNat ∨ v = 0 ∧ ¬ isSg (toks g136) 61 (g136 2 7).toNat), ?_, ?_⟩
                        · skip
                          exact v_1299
                        · skip
                          intro x144 hx1441 hx1442 g147 rg147 qg147
                          refine ⟨fun h149 => ?_, fun h149 => ?_⟩
                          · skip
                            have E0 : EN s0 g := EN_fr rg (by decide) (by decide) (by decide)
                            obtain ⟨Q1, N1⟩ : g30 = g ∧ (x27 = 1 ∧ isSg (toks g) 91 (g 2 7).toNat ∨ x27 = 0 ∧ ¬ isSg (toks g) 91 (g 2 7).toNat) := qg30
                            have B1 := sg_q E0 N1
                            have E1 : EN s0 g30 := by
                              rw [Q1]
                              exact E0
                            obtain ⟨Q2, N2⟩ : g103 = g30 ∧ x100 = tokI (toks g30) (g30 2 7).toNat := qg103
                            rw [E1.1] at N2
                            have E2 : EN s0 g103 := by
                              rw [Q2]
                              exact E1
                            have R3 : RSp 5 g103 x111 g114 := qg114
                            have F3 : EN g103 g114 := EN_fr rg114 (by decide) (by decide) (by decide)
                            have E3 : EN s0 g114 := EN_trans E2 F3
                            obtain ⟨Q4, N4⟩ : g125 = g114 ∧ (x122 = 1 ∧ isSg (toks g114) 60 (g114 2 7).toNat ∨ x122 = 0 ∧ ¬ isSg (toks g114) 60 (g114 2 7).toNat) := qg125
                            have B4 := sg_q E3 N4
                            have E4 : EN s0 g125 := by
                              rw [Q4]
                              exact E3
                            obtain ⟨Q5, N5⟩ : g136 = g125 ∧ (x133 = 1 ∧ isSg (toks g125) 62 (g125 2 7).toNat ∨ x133 = 0 ∧ ¬ isSg (toks g125) 62 (g125 2 7).toNat) := qg136
                            have B5 := sg_q E4 N5
                            have E5 : EN s0 g136 := by
                              rw [Q5]
                              exact E4
                            obtain ⟨Q6, N6⟩ : g147 = g136 ∧ (x144 = 1 ∧ isSg (toks g136) 61 (g136 2 7).toNat ∨ x144 = 0 ∧ ¬ isSg (toks g136) 61 (g136 2 7).toNat) := qg147
                            have B6 := sg_q E5 N6
                            have E6 : EN s0 g147 := by
                              rw [Q6]
                              exact E5
                            have S1 : sgB (toks s0) 91 (g 2 7).toNat = false := by
                              rcases B1 with ⟨z, y⟩ | ⟨z, y⟩
                              · exact absurd z (by omega)
                              · exact y
                            have S4 : sgB (toks s0) 60 (g114 2 7).toNat = false := by
                              rcases B4 with ⟨z, y⟩ | ⟨z, y⟩
                              · exact absurd z (by omega)
                              · exact y
                            have S5 : sgB (toks s0) 62 (g125 2 7).toNat = false := by
                              rcases B5 with ⟨z, y⟩ | ⟨z, y⟩
                              · exact absurd z (by omega)
                              · exact y
                            have S6 : sgB (toks s0) 61 (g136 2 7).toNat = true := by
                              rcases B6 with ⟨z, y⟩ | ⟨z, y⟩
                              · exact y
                              · exact absurd z (by omega)
                            have e2 : g103 = g := Q2.trans Q1
                            have D2 : g103 2 7 = g 2 7 := by rw [e2]
                            rw [Q1] at N2
                            have h24 : tokI (toks s0) (g 2 7).toNat ≠ 24 := by omega
                            rw [e2] at R3 F3
                            have M3 : CM1 5 s0 g114 := FPR_sum hp h23 h24 S1 R3 F3 (by omega) (by omega) (by omega)
                            have hb3 := TW_b M3.1
                            have lt3 : g 2 7 < g114 2 7 := (R3.1 (by omega)).1
                            rw [Q4] at S5
                            rw [Q5, Q4] at S6
                            rw [Q6, Q5, Q4]
                            exact ⟨_, by omega, rfl, M3, fun _ => cmB_3 (Or.inr (Or.inr S6)), fun z => absurd z (by decide)⟩
                          · skip
                            have E0 : EN s0 g := EN_fr rg (by decide) (by decide) (by decide)
                            obtain ⟨Q1, N1⟩ : g30 = g ∧ (x27 = 1 ∧ isSg (toks g) 91 (g 2 7).toNat ∨ x27 = 0 ∧ ¬ isSg (toks g) 91 (g 2 7).toNat) := qg30
                            have B1 := sg_q E0 N1
                            have E1 : EN s0 g30 := by
                              rw [Q1]
                              exact E0
                            obtain ⟨Q2, N2⟩ : g103 = g30 ∧ x100 = tokI (toks g30) (g30 2 7).toNat := qg103
                            rw [E1.1] at N2
                            have E2 : EN s0 g103 := by
                              rw [Q2]
                              exact E1
                            have R3 : RSp 5 g103 x111 g114 := qg114
                            have F3 : EN g103 g114 := EN_fr rg114 (by decide) (by decide) (by decide)
                            have E3 : EN s0 g114 := EN_trans E2 F3
                            obtain ⟨Q4, N4⟩ : g125 = g114 ∧ (x122 = 1 ∧ isSg (toks g114) 60 (g114 2 7).toNat ∨ x122 = 0 ∧ ¬ isSg (toks g114) 60 (g114 2 7).toNat) := qg125
                            have B4 := sg_q E3 N4
                            have E4 : EN s0 g125 := by
                              rw [Q4]
                              exact E3
                            obtain ⟨Q5, N5⟩ : g136 = g125 ∧ (x133 = 1 ∧ isSg (toks g125) 62 (g125 2 7).toNat ∨ x133 = 0 ∧ ¬ isSg (toks g125) 62 (g125 2 7).toNat) := qg136
                            have B5 := sg_q E4 N5
                            have E5 : EN s0 g136 := by
                              rw [Q5]
                              exact E4
                            obtain ⟨Q6, N6⟩ : g147 = g136 ∧ (x144 = 1 ∧ isSg (toks g136) 61 (g136 2 7).toNat ∨ x144 = 0 ∧ ¬ isSg (toks g136) 61 (g136 2 7).toNat) := qg147
                            have B6 := sg_q E5 N6
                            have E6 : EN s0 g147 := by
                              rw [Q6]
                              exact E5
                            have S1 : sgB (toks s0) 91 (g 2 7).toNat = false := by
                              rcases B1 with ⟨z, y⟩ | ⟨z, y⟩
                              · exact absurd z (by omega)
                              · exact y
                            have S4 : sgB (toks s0) 60 (g114 2 7).toNat = false := by
                              rcases B4 with ⟨z, y⟩ | ⟨z, y⟩
                              · exact absurd z (by omega)
                              · exact y
                            have S5 : sgB (toks s0) 62 (g125 2 7).toNat = false := by
                              rcases B5 with ⟨z, y⟩ | ⟨z, y⟩
                              · exact absurd z (by omega)
                              · exact y
                            have S6 : sgB (toks s0) 61 (g136 2 7).toNat = false := by
                              rcases B6 with ⟨z, y⟩ | ⟨z, y⟩
                              · exact absurd z (by omega)
                              · exact y
                            have e2 : g103 = g := Q2.trans Q1
                            have D2 : g103 2 7 = g 2 7 := by rw [e2]
                            rw [Q1] at N2
                            have h24 : tokI (toks s0) (g 2 7).toNat ≠ 24 := by omega
                            rw [e2] at R3 F3
                            have M3 : CM1 5 s0 g114 := FPR_sum hp h23 h24 S1 R3 F3 (by omega) (by omega) (by omega)
                            have hb3 := TW_b M3.1
                            have lt3 : g 2 7 < g114 2 7 := (R3.1 (by omega)).1
                            rw [Q4] at S5
                            rw [Q5, Q4] at S6
                            rw [Q6, Q5, Q4]
                            exact ⟨_, by omega, rfl, M3, fun z => absurd rfl z, fun _ => cmB_0 S4 S5 S6⟩
              · skip
                have E0 : EN s0 g := EN_fr rg (by decide) (by decide) (by decide)
                obtain ⟨Q1, N1⟩ : g30 = g ∧ (x27 = 1 ∧ isSg (toks g) 91 (g 2 7).toNat ∨ x27 = 0 ∧ ¬ isSg (toks g) 91 (g 2 7).toNat) := qg30
                have B1 := sg_q E0 N1
                have E1 : EN s0 g30 := by
                  rw [Q1]
                  exact E0
                obtain ⟨Q2, N2⟩ : g103 = g30 ∧ x100 = tokI (toks g30) (g30 2 7).toNat := qg103
                rw [E1.1] at N2
                have E2 : EN s0 g103 := by
                  rw [Q2]
                  exact E1
                have R3 : RSp 5 g103 x111 g114 := qg114
                have F3 : EN g103 g114 := EN_fr rg114 (by decide) (by decide) (by decide)
                have E3 : EN s0 g114 := EN_trans E2 F3
                have S1 : sgB (toks s0) 91 (g 2 7).toNat = false := by
                  rcases B1 with ⟨z, y⟩ | ⟨z, y⟩
                  · exact absurd z (by omega)
                  · exact y
                have e2 : g103 = g := Q2.trans Q1
                have D2 : g103 2 7 = g 2 7 := by rw [e2]
                rw [Q1] at N2
                have h24 : tokI (toks s0) (g 2 7).toNat ≠ 24 := by omega
                rw [e2] at R3
                exact FPR_sum0 hp h23 h24 S1 R3 (by omega)
          · skip
            refine ⟨fun g' => g' = stp g103, ?_, ?_⟩
            · skip
              exact v_1289
            · skip
              intro g155 rg155 qg155
              intro b157 eb157 fb157
              refine ⟨fun _ => True, ?_, ?_⟩
              · skip
                exact v_515
              · skip
                intro g166 rg166 qg166
                intro x168 ex168 fx168 gx168
                refine ⟨fun h172 => ?_, fun h172 => ?_⟩
                · skip
                  have E0 : EN s0 g := EN_fr rg (by decide) (by decide) (by decide)
                  obtain ⟨Q1, N1⟩ : g30 = g ∧ (x27 = 1 ∧ isSg (toks g) 91 (g 2 7).toNat ∨ x27 = 0 ∧ ¬ isSg (toks g) 91 (g 2 7).toNat) := qg30
                  have B1 := sg_q E0 N1
                  have E1 : EN s0 g30 := by
                    rw [Q1]
                    exact E0
                  obtain ⟨Q2, N2⟩ : g103 = g30 ∧ x100 = tokI (toks g30) (g30 2 7).toNat := qg103
                  rw [E1.1] at N2
                  have E2 : EN s0 g103 := by
                    rw [Q2]
                    exact E1
                  have T3 : g155 = stp g103 := qg155
                  have E3 : EN s0 g155 := EN_trans E2 (EN_fr rg155 (by decide) (by decide) (by decide))
                  have Z4 : EN g155 g166 ∧ g166 2 = g155 2 := by
                    first
                      | exact EN_put fb157 rg166
                  have E4 : EN s0 g166 := EN_trans E3 Z4.1
                  have S1 : sgB (toks s0) 91 (g 2 7).toNat = false := by
                    rcases B1 with ⟨z, y⟩ | ⟨z, y⟩
                    · exact absurd z (by omega)
                    · exact y
                  rw [Q1] at N2
                  rw [Q2, Q1] at T3
                  have P3 : FPO 5 s0 g155 := FPR_all hp (by omega) T3
                  have P4 := FPO_en P3 Z4.1 Z4.2
                  exact FPO_fact P4
                · skip
                  refine ⟨fun _ => True, ?_, ?_⟩
                  · skip
                    exact v_515
                  · skip
                    intro g179 rg179 qg179
                    have E0 : EN s0 g := EN_fr rg (by decide) (by decide) (by decide)
                    obtain ⟨Q1, N1⟩ : g30 = g ∧ (x27 = 1 ∧ isSg (toks g) 91 (g 2 7).toNat ∨ x27 = 0 ∧ ¬ isSg (toks g) 91 (g 2 7).toNat) := qg30
                    have B1 := sg_q E0 N1
                    have E1 : EN s0 g30 := by
                      rw [Q1]
                      exact E0
                    obtain ⟨Q2, N2⟩ : g103 = g30 ∧ x100 = tokI (toks g30) (g30 2 7).toNat := qg103
                    rw [E1.1] at N2
                    have E2 : EN s0 g103 := by
                      rw [Q2]
                      exact E1
                    have T3 : g155 = stp g103 := qg155
                    have E3 : EN s0 g155 := EN_trans E2 (EN_fr rg155 (by decide) (by decide) (by decide))
                    have Z4 : EN g155 g166 ∧ g166 2 = g155 2 := by
                      first
                        | exact EN_put fb157 rg166
                    have E4 : EN s0 g166 := EN_trans E3 Z4.1
                    have Z5 : EN g166 g179 ∧ g179 2 = g166 2 := by
                      first
                        | exact EN_put fb157 rg179
                    have E5 : EN s0 g179 := EN_trans E4 Z5.1
                    have S1 : sgB (toks s0) 91 (g 2 7).toNat = false := by
                      rcases B1 with ⟨z, y⟩ | ⟨z, y⟩
                      · exact absurd z (by omega)
                      · exact y
                    rw [Q1] at N2
                    rw [Q2, Q1] at T3
                    have P3 : FPO 5 s0 g155 := FPR_all hp (by omega) T3
                    have P4 := FPO_en P3 Z4.1 Z4.2
                    have P5 := FPO_en P4 Z5.1 Z5.2
                    exact FPO_fact P5
  · intro n g v167_2 s167_0 rg qv167_20 qv167_21 qs167_00 qs167_01 hI
    obtain ⟨hn, hp, hs1, hs0⟩ := hI
    have hb := TW_b hp.1
    refine ⟨fun h181 => ?_, fun h181 => ?_⟩
    · skip
      refine ⟨fun g' => g' = stp g, ?_, ?_⟩
      · skip
        exact v_1289
      · skip
        intro g187 rg187 qg187
        refine ⟨fun v g' => RSp 5 g187 v g', ?_, ?_⟩
        · skip
          have E0 : EN s0 g := EN_fr rg (by decide) (by decide) (by decide)
          have T1 : g187 = stp g := qg187
          have E1 : EN s0 g187 := EN_trans E0 (EN_fr rg187 (by decide) (by decide) (by decide))
          have O1 : CM2 5 s0 g187 := CM1_cmp hp (hs1 (by omega)) T1
          exact v_1297_c5 (OWS_en hw E1) O1.1
        · skip
          intro x194 hx1941 hx1942 g197 rg197 qg197
          refine ⟨fun h199 => ?_, fun h199 => ?_⟩
          · skip
            intro b200 eb200 fb200
            refine ⟨fun _ => True, ?_, ?_⟩
            · skip
              exact v_515
            · skip
              intro g209 rg209 qg209
              intro x211 ex211 fx211 gx211
              refine ⟨fun h215 => ?_, fun h215 => ?_⟩
              · skip
                have E0 : EN s0 g := EN_fr rg (by decide) (by decide) (by decide)
                have T1 : g187 = stp g := qg187
                have E1 : EN s0 g187 := EN_trans E0 (EN_fr rg187 (by decide) (by decide) (by decide))
                have R2 : RSp 5 g187 x194 g197 := qg197
                have F2 : EN g187 g197 := EN_fr rg197 (by decide) (by decide) (by decide)
                have E2 : EN s0 g197 := EN_trans E1 F2
                have Z3 : EN g197 g209 ∧ g209 2 = g197 2 := by
                  first
                    | exact EN_put fb200 rg209
                have E3 : EN s0 g209 := EN_trans E2 Z3.1
                have O1 : CM2 5 s0 g187 := CM1_cmp hp (hs1 (by omega)) T1
                have P2 : FPO 5 s0 g197 := CM2_sum O1 R2 F2 (by omega) (by omega) (by omega)
                have P3 := FPO_en P2 Z3.1 Z3.2
                exact FPO_fact P3
              · skip
                refine ⟨fun _ => True, ?_, ?_⟩
                · skip
                  exact v_515
                · skip
                  intro g222 rg222 qg222
                  have E0 : EN s0 g := EN_fr rg (by decide) (by decide) (by decide)
                  have T1 : g187 = stp g := qg187
                  have E1 : EN s0 g187 := EN_trans E0 (EN_fr rg187 (by decide) (by decide) (by decide))
                  have R2 : RSp 5 g187 x194 g197 := qg197
                  have F2 : EN g187 g197 := EN_fr rg197 (by decide) (by decide) (by decide)
                  have E2 : EN s0 g197 := EN_trans E1 F2
                  have Z3 : EN g197 g209 ∧ g209 2 = g197 2 := by
                    first
                      | exact EN_put fb200 rg209
                  have E3 : EN s0 g209 := EN_trans E2 Z3.1
                  have Z4 : EN g209 g222 ∧ g222 2 = g209 2 := by
                    first
                      | exact EN_put fb200 rg222
                  have E4 : EN s0 g222 := EN_trans E3 Z4.1
                  have O1 : CM2 5 s0 g187 := CM1_cmp hp (hs1 (by omega)) T1
                  have P2 : FPO 5 s0 g197 := CM2_sum O1 R2 F2 (by omega) (by omega) (by omega)
                  have P3 := FPO_en P2 Z3.1 Z3.2
                  have P4 := FPO_en P3 Z4.1 Z4.2
                  exact FPO_fact P4
          · skip
            have E0 : EN s0 g := EN_fr rg (by decide) (by decide) (by decide)
            have T1 : g187 = stp g := qg187
            have E1 : EN s0 g187 := EN_trans E0 (EN_fr rg187 (by decide) (by decide) (by decide))
            have R2 : RSp 5 g187 x194 g197 := qg197
            have F2 : EN g187 g197 := EN_fr rg197 (by decide) (by decide) (by decide)
            have E2 : EN s0 g197 := EN_trans E1 F2
            have O1 : CM2 5 s0 g187 := CM1_cmp hp (hs1 (by omega)) T1
            exact CM2_sum0 O1 R2 (by omega)
    · skip
      refine ⟨fun _ g' => (g' 2 0, g' 2 1) = ((1 : Int), if (1 : Int) = 1 ∧ g 4 (g 2 7).toNat = 1 then g 5 (g 2 7).toNat else g 6 (g 2 7).toNat), ?_, ?_⟩
      · skip
        exact v_1286
      · skip
        intro x229 hx2291 hx2292 g232 rg232 qg232
        have E0 : EN s0 g := EN_fr rg (by decide) (by decide) (by decide)
        have X1 : (g232 2 0, g232 2 1) = ((1 : Int), if (1 : Int) = 1 ∧ g 4 (g 2 7).toNat = 1 then g 5 (g 2 7).toNat else g 6 (g 2 7).toNat) := qg232
        have E1 : EN s0 g232 := EN_trans E0 (EN_fr rg232 (by decide) (by decide) (by decide))
        have Y1 := flt_q X1
        rw [E0.1] at Y1
        exact CM1_none hp (hs0 (by omega)) (by omega) Y1
set_option maxHeartbeats 4000000 in
theorem v_1300_c5 {s0 : zF} (hw : OWS s0) (ht : TW s0) : b_1300_c5 s0 (fun v g => RTp 5 s0 v g) := by
  refine ⟨fun n g v2_2 => n = (20 * (2000 - g 2 7) + 9).toNat ∧ FPR 5 s0 g ∧ v2_2 ≤ g 2 7, fun n g v11_2 v11_3 => n = (20 * (2000 - g 2 7) + 8).toNat ∧ FPR 5 s0 g ∧ v11_2 ≤ g 2 7 ∧ v11_3 ≤ g 2 7, fun n g v44_2 v44_3 => n = (20 * (2000 - g 2 7) + 7).toNat ∧ FPO 5 s0 g ∧ v44_2 ≤ g 2 7 ∧ v44_3 ≤ g 2 7, fun n g v66_2 => n = (20 * (2000 - g 2 7) + 6).toNat ∧ FPO 5 s0 g ∧ v66_2 ≤ g 2 7 ∧ tokI (toks s0) (g 2 7).toNat ≠ 22, ?_, ?_, ?_, ?_, ?_⟩
  · skip
    exact ⟨_, rfl, FPR_0 ht, by have := TW_b ht; omega⟩
  · intro n g v2_2 rg qv2_20 qv2_21 hI
    obtain ⟨hn, hp, h3⟩ := hI
    have hb := TW_b hp.1
    refine ⟨fun h1 => ?_, fun h1 => ?_⟩
    · skip
      exfalso
      omega
    · skip
      exact ⟨_, by omega, rfl, hp, h3, by omega⟩
  · intro n g v11_2 v11_3 rg qv11_20 qv11_21 qv11_30 qv11_31 hI
    obtain ⟨hn, hp, h3, h5⟩ := hI
    have hb := TW_b hp.1
    refine ⟨fun h2 => ?_, fun h2 => ?_⟩
    · skip
      exfalso
      omega
    · skip
      refine ⟨fun v g' => RFp 5 g v g', ?_, ?_⟩
      · skip
        have E0 : EN s0 g := EN_fr rg (by decide) (by decide) (by decide)
        exact v_1301_c5 (OWS_en hw E0) hp.1
      · skip
        intro x8 hx81 hx82 g11 rg11 qg11
        refine ⟨fun h13 => ?_, fun h13 => ?_⟩
        · skip
          refine ⟨fun h14 => ?_, fun h14 => ?_⟩
          · skip
            intro b15 eb15 fb15
            refine ⟨fun _ => True, ?_, ?_⟩
            · skip
              exact v_515
            · skip
              intro g24 rg24 qg24
              have E0 : EN s0 g := EN_fr rg (by decide) (by decide) (by decide)
              have R1 : RFp 5 g x8 g11 := qg11
              have F1 : EN g g11 := EN_fr rg11 (by decide) (by decide) (by decide)
              have E1 : EN s0 g11 := EN_trans E0 F1
              have Z2 : EN g11 g24 ∧ g24 2 = g11 2 := by
                first
                  | exact EN_put fb15 rg24
              have E2 : EN s0 g24 := EN_trans E1 Z2.1
              obtain ⟨p1, p2⟩ := FPR_fact hp R1 F1 (by omega) (by omega) (by omega)
              have p3 := FPO_en p1 Z2.1 Z2.2
              have e7 : g24 2 7 = g11 2 7 := by rw [Z2.2]
              exact ⟨_, by omega, rfl, p3, by omega, by omega⟩
          · skip
            have E0 : EN s0 g := EN_fr rg (by decide) (by decide) (by decide)
            have R1 : RFp 5 g x8 g11 := qg11
            have F1 : EN g g11 := EN_fr rg11 (by decide) (by decide) (by decide)
            have E1 : EN s0 g11 := EN_trans E0 F1
            obtain ⟨p1, p2⟩ := FPR_fact hp R1 F1 (by omega) (by omega) (by omega)
            exact ⟨_, by omega, rfl, p1, by omega, by omega⟩
        · skip
          have E0 : EN s0 g := EN_fr rg (by decide) (by decide) (by decide)
          have R1 : RFp 5 g x8 g11 := qg11
          have F1 : EN g g11 := EN_fr rg11 (by decide) (by decide) (by decide)
          have E1 : EN s0 g11 := EN_trans E0 F1
          exact FPR_fact0 hp R1 (by omega)
  · intro n g v44_2 v44_3 rg qv44_20 qv44_21 qv44_30 qv44_31 hI
    obtain ⟨hn, hp, h3, h5⟩ := hI
    have hb := TW_b hp.1
    refine ⟨fun v g' => g' = g ∧ v = tokI (toks g) (g 2 7).toNat, ?_, ?_⟩
    · skip
      have E0 : EN s0 g := EN_fr rg (by decide) (by decide) (by decide)
      exact v_1287 (OWS_en hw E0)
    · skip
      intro x31 hx311 hx312 g34 rg34 qg34
      refine ⟨fun h36 => ?_, fun h36 => ?_⟩
      · skip
        have E0 : EN s0 g := EN_fr rg (by decide) (by decide) (by decide)
        obtain ⟨Q1, N1⟩ : g34 = g ∧ x31 = tokI (toks g) (g 2 7).toNat := qg34
        rw [E0.1] at N1
        have E1 : EN s0 g34 := by
          rw [Q1]
          exact E0
        rw [Q1]
        exact ⟨_, by omega, rfl, hp, h3, by omega⟩
      · skip
        refine ⟨fun g' => g' = stp g34, ?_, ?_⟩
        · skip
          exact v_1289
        · skip
          intro g42 rg42 qg42
          intro x44 ex44
          have E0 : EN s0 g := EN_fr rg (by decide) (by decide) (by decide)
          obtain ⟨Q1, N1⟩ : g34 = g ∧ x31 = tokI (toks g) (g 2 7).toNat := qg34
          rw [E0.1] at N1
          have E1 : EN s0 g34 := by
            rw [Q1]
            exact E0
          have T2 : g42 = stp g34 := qg42
          have E2 : EN s0 g42 := EN_trans E1 (EN_fr rg42 (by decide) (by decide) (by decide))
          rw [Q1] at T2
          obtain ⟨p1, p2⟩ := FPO_ao hp (Or.inl (by omega)) T2
          exact ⟨_, by omega, rfl, p1, by omega, by omega⟩
  · intro n g v66_2 rg qv66_20 qv66_21 hI
    obtain ⟨hn, hp, h3, h22⟩ := hI
    have hb := TW_b hp.1
    refine ⟨fun h46 => ?_, fun h46 => ?_⟩
    · skip
      intro b47 eb47 fb47
      refine ⟨fun _ => True, ?_, ?_⟩
      · skip
        exact v_515
      · skip
        intro g56 rg56 qg56
        refine ⟨fun v g' => g' = g56 ∧ v = tokI (toks g56) (g56 2 7).toNat, ?_, ?_⟩
        · skip
          have E0 : EN s0 g := EN_fr rg (by decide) (by decide) (by decide)
          have Z1 : EN g g56 ∧ g56 2 = g 2 := by
            first
              | exact EN_put fb47 rg56
          have E1 : EN s0 g56 := EN_trans E0 Z1.1
          exact v_1287 (OWS_en hw E1)
        · skip
          intro x63 hx631 hx632 g66 rg66 qg66
          refine ⟨fun h68 => ?_, fun h68 => ?_⟩
          · skip
            have E0 : EN s0 g := EN_fr rg (by decide) (by decide) (by decide)
            have Z1 : EN g g56 ∧ g56 2 = g 2 := by
              first
                | exact EN_put fb47 rg56
            have E1 : EN s0 g56 := EN_trans E0 Z1.1
            obtain ⟨Q2, N2⟩ : g66 = g56 ∧ x63 = tokI (toks g56) (g56 2 7).toNat := qg66
            rw [E1.1] at N2
            have E2 : EN s0 g66 := by
              rw [Q2]
              exact E1
            have hq := FPO_en hp Z1.1 Z1.2
            have e7 : g56 2 7 = g 2 7 := by rw [Z1.2]
            show RTp 5 s0 1 g66
            rw [Q2]
            exact FPO_end hq (by rw [e7]; exact h22) (by omega)
          · skip
            refine ⟨fun g' => g' = stp g66, ?_, ?_⟩
            · skip
              exact v_1289
            · skip
              intro g74 rg74 qg74
              intro x76 ex76
              have E0 : EN s0 g := EN_fr rg (by decide) (by decide) (by decide)
              have Z1 : EN g g56 ∧ g56 2 = g 2 := by
                first
                  | exact EN_put fb47 rg56
              have E1 : EN s0 g56 := EN_trans E0 Z1.1
              obtain ⟨Q2, N2⟩ : g66 = g56 ∧ x63 = tokI (toks g56) (g56 2 7).toNat := qg66
              rw [E1.1] at N2
              have E2 : EN s0 g66 := by
                rw [Q2]
                exact E1
              have T3 : g74 = stp g66 := qg74
              have E3 : EN s0 g74 := EN_trans E2 (EN_fr rg74 (by decide) (by decide) (by decide))
              have hq := FPO_en hp Z1.1 Z1.2
              have e7 : g56 2 7 = g 2 7 := by rw [Z1.2]
              rw [Q2] at T3
              obtain ⟨p1, p2⟩ := FPO_ao hq (Or.inr (by omega)) T3
              exact ⟨_, by omega, rfl, p1, by omega⟩
    · skip
      refine ⟨fun v g' => g' = g ∧ v = tokI (toks g) (g 2 7).toNat, ?_, ?_⟩
      · skip
        have E0 : EN s0 g := EN_fr rg (by decide) (by decide) (by decide)
        exact v_1287 (OWS_en hw E0)
      · skip
        intro x83 hx831 hx832 g86 rg86 qg86
        refine ⟨fun h88 => ?_, fun h88 => ?_⟩
        · skip
          have E0 : EN s0 g := EN_fr rg (by decide) (by decide) (by decide)
          obtain ⟨Q1, N1⟩ : g86 = g ∧ x83 = tokI (toks g) (g 2 7).toNat := qg86
          rw [E0.1] at N1
          have E1 : EN s0 g86 := by
            rw [Q1]
            exact E0
          show RTp 5 s0 1 g86
          rw [Q1]
          exact FPO_end hp h22 (by omega)
        · skip
          refine ⟨fun g' => g' = stp g86, ?_, ?_⟩
          · skip
            exact v_1289
          · skip
            intro g94 rg94 qg94
            intro x96 ex96
            have E0 : EN s0 g := EN_fr rg (by decide) (by decide) (by decide)
            obtain ⟨Q1, N1⟩ : g86 = g ∧ x83 = tokI (toks g) (g 2 7).toNat := qg86
            rw [E0.1] at N1
            have E1 : EN s0 g86 := by
              rw [Q1]
              exact E0
            have T2 : g94 = stp g86 := qg94
            have E2 : EN s0 g94 := EN_trans E1 (EN_fr rg94 (by decide) (by decide) (by decide))
            rw [Q1] at T2
            obtain ⟨p1, p2⟩ := FPO_ao hp (Or.inr (by omega)) T2
            exact ⟨_, by omega, rfl, p1, by omega⟩
set_option maxHeartbeats 4000000 in
theorem v_1301_c4 {s0 : zF} (hw : OWS s0) (ht : TW s0) : b_1301_c4 s0 (fun v g => RFp 4 s0 v g) := by
  refine ⟨fun n g v2_2 => n = (20 * (2000 - g 2 7) + 9).toNat ∧ FPR 4 s0 g ∧ v2_2 ≤ g 2 7, fun n g v28_2 => n = (20 * (2000 - g 2 7) + 5).toNat ∧ FPR 4 s0 g ∧ tokI (toks s0) (g 2 7).toNat ≠ 23, fun n g v167_2 s167_0 => n = (20 * (2000 - g 2 7) + 3).toNat ∧ CM1 4 s0 g ∧ (¬ s167_0 = 0 → cmB (toks s0) (g 2 7).toNat = true) ∧ (s167_0 = 0 → cmB (toks s0) (g 2 7).toNat = false), ?_, ?_, ?_, ?_⟩
  · skip
    exact ⟨_, rfl, FPR_0 ht, by have := TW_b ht; omega⟩
  · intro n g v2_2 rg qv2_20 qv2_21 hI
    obtain ⟨hn, hp, h3⟩ := hI
    have hb := TW_b hp.1
    refine ⟨fun h1 => ?_, fun h1 => ?_⟩
    · skip
      exfalso
      omega
    · skip
      refine ⟨fun v g' => g' = g ∧ v = tokI (toks g) (g 2 7).toNat, ?_, ?_⟩
      · skip
        have E0 : EN s0 g := EN_fr rg (by decide) (by decide) (by decide)
        exact v_1287 (OWS_en hw E0)
      · skip
        intro x7 hx71 hx72 g10 rg10 qg10
        refine ⟨fun h12 => ?_, fun h12 => ?_⟩
        · skip
          have E0 : EN s0 g := EN_fr rg (by decide) (by decide) (by decide)
          obtain ⟨Q1, N1⟩ : g10 = g ∧ x7 = tokI (toks g) (g 2 7).toNat := qg10
          rw [E0.1] at N1
          have E1 : EN s0 g10 := by
            rw [Q1]
            exact E0
          rw [Q1]
          exact ⟨_, by omega, rfl, hp, by omega⟩
        · skip
          refine ⟨fun g' => g' = stp g10, ?_, ?_⟩
          · skip
            exact v_1289
          · skip
            intro g18 rg18 qg18
            intro x20 ex20
            have E0 : EN s0 g := EN_fr rg (by decide) (by decide) (by decide)
            obtain ⟨Q1, N1⟩ : g10 = g ∧ x7 = tokI (toks g) (g 2 7).toNat := qg10
            rw [E0.1] at N1
            have E1 : EN s0 g10 := by
              rw [Q1]
              exact E0
            have T2 : g18 = stp g10 := qg18
            have E2 : EN s0 g18 := EN_trans E1 (EN_fr rg18 (by decide) (by decide) (by decide))
            rw [Q1] at T2
            obtain ⟨p1, p2⟩ := FPR_not hp (by omega) T2
            exact ⟨_, by omega, rfl, p1, by omega⟩
  · intro n g v28_2 rg qv28_20 qv28_21 hI
    obtain ⟨hn, hp, h23⟩ := hI
    have hb := TW_b hp.1
    refine ⟨fun v g' => g' = g ∧ (v = 1 ∧ isSg (toks g) 91 (g 2 7).toNat ∨ v = 0 ∧ ¬ isSg (toks g) 91 (g 2 7).toNat), ?_, ?_⟩
    · skip
      exact v_1299
    · skip
      intro x27 hx271 hx272 g30 rg30 qg30
      refine ⟨fun h32 => ?_, fun h32 => ?_⟩
      · skip
        refine ⟨fun g' => g' = stp g30, ?_, ?_⟩
        · skip
          exact v_1289
        · skip
          intro g38 rg38 qg38
          refine ⟨fun v g' => RTp 5 g38 v g', ?_, ?_⟩
          · skip
            have E0 : EN s0 g := EN_fr rg (by decide) (by decide) (by decide)
            obtain ⟨Q1, N1⟩ : g30 = g ∧ (x27 = 1 ∧ isSg (toks g) 91 (g 2 7).toNat ∨ x27 = 0 ∧ ¬ isSg (toks g) 91 (g 2 7).toNat) := qg30
            have B1 := sg_q E0 N1
            have E1 : EN s0 g30 := by
              rw [Q1]
              exact E0
            have T2 : g38 = stp g30 := qg38
            have E2 : EN s0 g38 := EN_trans E1 (EN_fr rg38 (by decide) (by decide) (by decide))
            have S1 : sgB (toks s0) 91 (g 2 7).toNat = true := by
              rcases B1 with ⟨z, y⟩ | ⟨z, y⟩
              · exact y
              · exact absurd z (by omega)
            rw [Q1] at T2
            have O2 : SQO 4 s0 g38 := FPR_sq hp (by decide) S1 T2
            exact v_1300_c5 (OWS_en hw E2) O2.1
          · skip
            intro x45 hx451 hx452 g48 rg48 qg48
            refine ⟨fun h50 => ?_, fun h50 => ?_⟩
            · skip
              refine ⟨fun v g' => g' = g48 ∧ (v = 1 ∧ isSg (toks g48) 93 (g48 2 7).toNat ∨ v = 0 ∧ ¬ isSg (toks g48) 93 (g48 2 7).toNat), ?_, ?_⟩
              · skip
                exact v_1299
              · skip
                intro x56 hx561 hx562 g59 rg59 qg59
                refine ⟨fun h61 => ?_, fun h61 => ?_⟩
                · skip
                  refine ⟨fun g' => g' = stp g59, ?_, ?_⟩
                  · skip
                    exact v_1289
                  · skip
                    intro g67 rg67 qg67
                    intro x69 ex69 fx69 gx69
                    refine ⟨fun h73 => ?_, fun h73 => ?_⟩
                    · skip
                      have E0 : EN s0 g := EN_fr rg (by decide) (by decide) (by decide)
                      obtain ⟨Q1, N1⟩ : g30 = g ∧ (x27 = 1 ∧ isSg (toks g) 91 (g 2 7).toNat ∨ x27 = 0 ∧ ¬ isSg (toks g) 91 (g 2 7).toNat) := qg30
                      have B1 := sg_q E0 N1
                      have E1 : EN s0 g30 := by
                        rw [Q1]
                        exact E0
                      have T2 : g38 = stp g30 := qg38
                      have E2 : EN s0 g38 := EN_trans E1 (EN_fr rg38 (by decide) (by decide) (by decide))
                      have R3 : RTp 5 g38 x45 g48 := qg48
                      have F3 : EN g38 g48 := EN_fr rg48 (by decide) (by decide) (by decide)
                      have E3 : EN s0 g48 := EN_trans E2 F3
                      obtain ⟨Q4, N4⟩ : g59 = g48 ∧ (x56 = 1 ∧ isSg (toks g48) 93 (g48 2 7).toNat ∨ x56 = 0 ∧ ¬ isSg (toks g48) 93 (g48 2 7).toNat) := qg59
                      have B4 := sg_q E3 N4
                      have E4 : EN s0 g59 := by
                        rw [Q4]
                        exact E3
                      have T5 : g67 = stp g59 := qg67
                      have E5 : EN s0 g67 := EN_trans E4 (EN_fr rg67 (by decide) (by decide) (by decide))
                      have S1 : sgB (toks s0) 91 (g 2 7).toNat = true := by
                        rcases B1 with ⟨z, y⟩ | ⟨z, y⟩
                        · exact y
                        · exact absurd z (by omega)
                      have S4 : sgB (toks s0) 93 (g48 2 7).toNat = true := by
                        rcases B4 with ⟨z, y⟩ | ⟨z, y⟩
                        · exact y
                        · exact absurd z (by omega)
                      rw [Q1] at T2
                      have O2 : SQO 4 s0 g38 := FPR_sq hp (by decide) S1 T2
                      have M3 : SQD 4 s0 g48 := SQO_test O2 R3 F3 (by omega) (by omega) (by omega)
                      rw [Q4] at T5
                      have P5 : FPO 4 s0 g67 := SQD_close M3 S4 T5
                      exact FPO_fact P5
                    · skip
                      intro b74 eb74 fb74
                      refine ⟨fun _ => True, ?_, ?_⟩
                      · skip
                        exact v_515
                      · skip
                        intro g83 rg83 qg83
                        have E0 : EN s0 g := EN_fr rg (by decide) (by decide) (by decide)
                        obtain ⟨Q1, N1⟩ : g30 = g ∧ (x27 = 1 ∧ isSg (toks g) 91 (g 2 7).toNat ∨ x27 = 0 ∧ ¬ isSg (toks g) 91 (g 2 7).toNat) := qg30
                        have B1 := sg_q E0 N1
                        have E1 : EN s0 g30 := by
                          rw [Q1]
                          exact E0
                        have T2 : g38 = stp g30 := qg38
                        have E2 : EN s0 g38 := EN_trans E1 (EN_fr rg38 (by decide) (by decide) (by decide))
                        have R3 : RTp 5 g38 x45 g48 := qg48
                        have F3 : EN g38 g48 := EN_fr rg48 (by decide) (by decide) (by decide)
                        have E3 : EN s0 g48 := EN_trans E2 F3
                        obtain ⟨Q4, N4⟩ : g59 = g48 ∧ (x56 = 1 ∧ isSg (toks g48) 93 (g48 2 7).toNat ∨ x56 = 0 ∧ ¬ isSg (toks g48) 93 (g48 2 7).toNat) := qg59
                        have B4 := sg_q E3 N4
                        have E4 : EN s0 g59 := by
                          rw [Q4]
                          exact E3
                        have T5 : g67 = stp g59 := qg67
                        have E5 : EN s0 g67 := EN_trans E4 (EN_fr rg67 (by decide) (by decide) (by decide))
                        have Z6 : EN g67 g83 ∧ g83 2 = g67 2 := by
                          first
                            | exact EN_put fb74 rg83
                        have E6 : EN s0 g83 := EN_trans E5 Z6.1
                        have S1 : sgB (toks s0) 91 (g 2 7).toNat = true := by
                          rcases B1 with ⟨z, y⟩ | ⟨z, y⟩
                          · exact y
                          · exact absurd z (by omega)
                        have S4 : sgB (toks s0) 93 (g48 2 7).toNat = true := by
                          rcases B4 with ⟨z, y⟩ | ⟨z, y⟩
                          · exact y
                          · exact absurd z (by omega)
                        rw [Q1] at T2
                        have O2 : SQO 4 s0 g38 := FPR_sq hp (by decide) S1 T2
                        have M3 : SQD 4 s0 g48 := SQO_test O2 R3 F3 (by omega) (by omega) (by omega)
                        rw [Q4] at T5
                        have P5 : FPO 4 s0 g67 := SQD_close M3 S4 T5
                        have P6 := FPO_en P5 Z6.1 Z6.2
                        exact FPO_fact P6
                · skip
                  refine ⟨fun _ g' => (g' 2 0, g' 2 1) = ((1 : Int), if (1 : Int) = 1 ∧ g59 4 (g59 2 7).toNat = 1 then g59 5 (g59 2 7).toNat else g59 6 (g59 2 7).toNat), ?_, ?_⟩
                  · skip
                    exact v_1286
                  · skip
                    intro x90 hx901 hx902 g93 rg93 qg93
                    have E0 : EN s0 g := EN_fr rg (by decide) (by decide) (by decide)
                    obtain ⟨Q1, N1⟩ : g30 = g ∧ (x27 = 1 ∧ isSg (toks g) 91 (g 2 7).toNat ∨ x27 = 0 ∧ ¬ isSg (toks g) 91 (g 2 7).toNat) := qg30
                    have B1 := sg_q E0 N1
                    have E1 : EN s0 g30 := by
                      rw [Q1]
                      exact E0
                    have T2 : g38 = stp g30 := qg38
                    have E2 : EN s0 g38 := EN_trans E1 (EN_fr rg38 (by decide) (by decide) (by decide))
                    have R3 : RTp 5 g38 x45 g48 := qg48
                    have F3 : EN g38 g48 := EN_fr rg48 (by decide) (by decide) (by decide)
                    have E3 : EN s0 g48 := EN_trans E2 F3
                    obtain ⟨Q4, N4⟩ : g59 = g48 ∧ (x56 = 1 ∧ isSg (toks g48) 93 (g48 2 7).toNat ∨ x56 = 0 ∧ ¬ isSg (toks g48) 93 (g48 2 7).toNat) := qg59
                    have B4 := sg_q E3 N4
                    have E4 : EN s0 g59 := by
                      rw [Q4]
                      exact E3
                    have X5 : (g93 2 0, g93 2 1) = ((1 : Int), if (1 : Int) = 1 ∧ g59 4 (g59 2 7).toNat = 1 then g59 5 (g59 2 7).toNat else g59 6 (g59 2 7).toNat) := qg93
                    have E5 : EN s0 g93 := EN_trans E4 (EN_fr rg93 (by decide) (by decide) (by decide))
                    have S1 : sgB (toks s0) 91 (g 2 7).toNat = true := by
                      rcases B1 with ⟨z, y⟩ | ⟨z, y⟩
                      · exact y
                      · exact absurd z (by omega)
                    have S4 : sgB (toks s0) 93 (g48 2 7).toNat = false := by
                      rcases B4 with ⟨z, y⟩ | ⟨z, y⟩
                      · exact absurd z (by omega)
                      · exact y
                    rw [Q4] at X5
                    have Y5 := flt_q X5
                    rw [E3.1] at Y5
                    rw [Q1] at T2
                    have O2 : SQO 4 s0 g38 := FPR_sq hp (by decide) S1 T2
                    have M3 : SQD 4 s0 g48 := SQO_test O2 R3 F3 (by omega) (by omega) (by omega)
                    exact SQD_close0 M3 S4 (by omega) Y5
            · skip
              have E0 : EN s0 g := EN_fr rg (by decide) (by decide) (by decide)
              obtain ⟨Q1, N1⟩ : g30 = g ∧ (x27 = 1 ∧ isSg (toks g) 91 (g 2 7).toNat ∨ x27 = 0 ∧ ¬ isSg (toks g) 91 (g 2 7).toNat) := qg30
              have B1 := sg_q E0 N1
              have E1 : EN s0 g30 := by
                rw [Q1]
                exact E0
              have T2 : g38 = stp g30 := qg38
              have E2 : EN s0 g38 := EN_trans E1 (EN_fr rg38 (by decide) (by decide) (by decide))
              have R3 : RTp 5 g38 x45 g48 := qg48
              have F3 : EN g38 g48 := EN_fr rg48 (by decide) (by decide) (by decide)
              have E3 : EN s0 g48 := EN_trans E2 F3
              have S1 : sgB (toks s0) 91 (g 2 7).toNat = true := by
                rcases B1 with ⟨z, y⟩ | ⟨z, y⟩
                · exact y
                · exact absurd z (by omega)
              rw [Q1] at T2
              have O2 : SQO 4 s0 g38 := FPR_sq hp (by decide) S1 T2
              exact SQO_test0 O2 R3 (by omega)
      · skip
        refine ⟨fun v g' => g' = g30 ∧ v = tokI (toks g30) (g30 2 7).toNat, ?_, ?_⟩
        · skip
          have E0 : EN s0 g := EN_fr rg (by decide) (by decide) (by decide)
          obtain ⟨Q1, N1⟩ : g30 = g ∧ (x27 = 1 ∧ isSg (toks g) 91 (g 2 7).toNat ∨ x27 = 0 ∧ ¬ isSg (toks g) 91 (g 2 7).toNat) := qg30
          have B1 := sg_q E0 N1
          have E1 : EN s0 g30 := by
            rw [Q1]
            exact E0
          exact v_1287 (OWS_en hw E1)
        · skip
          intro x100 hx1001 hx1002 g103 rg103 qg103
          refine ⟨fun h105 => ?_, fun h105 => ?_⟩
          · skip
            refine ⟨fun v g' => RSp 4 g103 v g', ?_, ?_⟩
            · skip
              have E0 : EN s0 g := EN_fr rg (by decide) (by decide) (by decide)
              obtain ⟨Q1, N1⟩ : g30 = g ∧ (x27 = 1 ∧ isSg (toks g) 91 (g 2 7).toNat ∨ x27 = 0 ∧ ¬ isSg (toks g) 91 (g 2 7).toNat) := qg30
              have B1 := sg_q E0 N1
              have E1 : EN s0 g30 := by
                rw [Q1]
                exact E0
              obtain ⟨Q2, N2⟩ : g103 = g30 ∧ x100 = tokI (toks g30) (g30 2 7).toNat := qg103
              rw [E1.1] at N2
              have E2 : EN s0 g103 := by
                rw [Q2]
                exact E1
              have S1 : sgB (toks s0) 91 (g 2 7).toNat = false := by
                rcases B1 with ⟨z, y⟩ | ⟨z, y⟩
                · exact absurd z (by omega)
                · exact y
              have e2 : g103 = g := Q2.trans Q1
              have D2 : g103 2 7 = g 2 7 := by rw [e2]
              rw [Q1] at N2
              have h24 : tokI (toks s0) (g 2 7).toNat ≠ 24 := by omega
              exact v_1297_c4 (OWS_en hw E2) (by rw [e2]; exact hp.1)
            · skip
              intro x111 hx1111 hx1112 g114 rg114 qg114
              refine ⟨fun h116 => ?_, fun h116 => ?_⟩
              · skip
                refine ⟨fun v g' => g' = g114 ∧ (v = 1 ∧ isSg (toks g114) 60 (g114 2 7).toNat ∨ v = 0 ∧ ¬ isSg (toks g114) 60 (g114 2 7).toNat), ?_, ?_⟩
                · skip
                  exact v_1299
                · skip
                  intro x122 hx1221 hx1222 g125 rg125 qg125
                  refine ⟨fun h127 => ?_, fun h127 => ?_⟩
                  · skip
                    have E0 : EN s0 g := EN_fr rg (by decide) (by decide) (by decide)
                    obtain ⟨Q1, N1⟩ : g30 = g ∧ (x27 = 1 ∧ isSg (toks g) 91 (g 2 7).toNat ∨ x27 = 0 ∧ ¬ isSg (toks g) 91 (g 2 7).toNat) := qg30
                    have B1 := sg_q E0 N1
                    have E1 : EN s0 g30 := by
                      rw [Q1]
                      exact E0
                    obtain ⟨Q2, N2⟩ : g103 = g30 ∧ x100 = tokI (toks g30) (g30 2 7).toNat := qg103
                    rw [E1.1] at N2
                    have E2 : EN s0 g103 := by
                      rw [Q2]
                      exact E1
                    have R3 : RSp 4 g103 x111 g114 := qg114
                    have F3 : EN g103 g114 := EN_fr rg114 (by decide) (by decide) (by decide)
                    have E3 : EN s0 g114 := EN_trans E2 F3
                    obtain ⟨Q4, N4⟩ : g125 = g114 ∧ (x122 = 1 ∧ isSg (toks g114) 60 (g114 2 7).toNat ∨ x122 = 0 ∧ ¬ isSg (toks g114) 60 (g114 2 7).toNat) := qg125
                    have B4 := sg_q E3 N4
                    have E4 : EN s0 g125 := by
                      rw [Q4]
                      exact E3
                    have S1 : sgB (toks s0) 91 (g 2 7).toNat = false := by
                      rcases B1 with ⟨z, y⟩ | ⟨z, y⟩
                      · exact absurd z (by omega)
                      · exact y
                    have S4 : sgB (toks s0) 60 (g114 2 7).toNat = true := by
                      rcases B4 with ⟨z, y⟩ | ⟨z, y⟩
                      · exact y
                      · exact absurd z (by omega)
                    have e2 : g103 = g := Q2.trans Q1
                    have D2 : g103 2 7 = g 2 7 := by rw [e2]
                    rw [Q1] at N2
                    have h24 : tokI (toks s0) (g 2 7).toNat ≠ 24 := by omega
                    rw [e2] at R3 F3
                    have M3 : CM1 4 s0 g114 := FPR_sum hp h23 h24 S1 R3 F3 (by omega) (by omega) (by omega)
                    have hb3 := TW_b M3.1
                    have lt3 : g 2 7 < g114 2 7 := (R3.1 (by omega)).1
                    rw [Q4]
                    exact ⟨_, by omega, rfl, M3, fun _ => cmB_3 (Or.inl S4), fun z => absurd z (by decide)⟩
                  · skip
                    refine ⟨fun v g' => g' = g125 ∧ (v = 1 ∧ isSg (toks g125) 62 (g125 2 7).toNat ∨ v = 0 ∧ ¬ isSg (toks g125) 62 (g125 2 7).toNat), ?_, ?_⟩
                    · skip
                      exact v_1299
                    · skip
                      intro x133 hx1331 hx1332 g136 rg136 qg136
                      refine ⟨fun h138 => ?_, fun h138 => ?_⟩
                      · skip
                        have E0 : EN s0 g := EN_fr rg (by decide) (by decide) (by decide)
                        obtain ⟨Q1, N1⟩ : g30 = g ∧ (x27 = 1 ∧ isSg (toks g) 91 (g 2 7).toNat ∨ x27 = 0 ∧ ¬ isSg (toks g) 91 (g 2 7).toNat) := qg30
                        have B1 := sg_q E0 N1
                        have E1 : EN s0 g30 := by
                          rw [Q1]
                          exact E0
                        obtain ⟨Q2, N2⟩ : g103 = g30 ∧ x100 = tokI (toks g30) (g30 2 7).toNat := qg103
                        rw [E1.1] at N2
                        have E2 : EN s0 g103 := by
                          rw [Q2]
                          exact E1
                        have R3 : RSp 4 g103 x111 g114 := qg114
                        have F3 : EN g103 g114 := EN_fr rg114 (by decide) (by decide) (by decide)
                        have E3 : EN s0 g114 := EN_trans E2 F3
                        obtain ⟨Q4, N4⟩ : g125 = g114 ∧ (x122 = 1 ∧ isSg (toks g114) 60 (g114 2 7).toNat ∨ x122 = 0 ∧ ¬ isSg (toks g114) 60 (g114 2 7).toNat) := qg125
                        have B4 := sg_q E3 N4
                        have E4 : EN s0 g125 := by
                          rw [Q4]
                          exact E3
                        obtain ⟨Q5, N5⟩ : g136 = g125 ∧ (x133 = 1 ∧ isSg (toks g125) 62 (g125 2 7).toNat ∨ x133 = 0 ∧ ¬ isSg (toks g125) 62 (g125 2 7).toNat) := qg136
                        have B5 := sg_q E4 N5
                        have E5 : EN s0 g136 := by
                          rw [Q5]
                          exact E4
                        have S1 : sgB (toks s0) 91 (g 2 7).toNat = false := by
                          rcases B1 with ⟨z, y⟩ | ⟨z, y⟩
                          · exact absurd z (by omega)
                          · exact y
                        have S4 : sgB (toks s0) 60 (g114 2 7).toNat = false := by
                          rcases B4 with ⟨z, y⟩ | ⟨z, y⟩
                          · exact absurd z (by omega)
                          · exact y
                        have S5 : sgB (toks s0) 62 (g125 2 7).toNat = true := by
                          rcases B5 with ⟨z, y⟩ | ⟨z, y⟩
                          · exact y
                          · exact absurd z (by omega)
                        have e2 : g103 = g := Q2.trans Q1
                        have D2 : g103 2 7 = g 2 7 := by rw [e2]
                        rw [Q1] at N2
                        have h24 : tokI (toks s0) (g 2 7).toNat ≠ 24 := by omega
                        rw [e2] at R3 F3
                        have M3 : CM1 4 s0 g114 := FPR_sum hp h23 h24 S1 R3 F3 (by omega) (by omega) (by omega)
                        have hb3 := TW_b M3.1
                        have lt3 : g 2 7 < g114 2 7 := (R3.1 (by omega)).1
                        rw [Q4] at S5
                        rw [Q5, Q4]
                        exact ⟨_, by omega, rfl, M3, fun _ => cmB_3 (Or.inr (Or.inl S5)), fun z => absurd z (by decide)⟩
                      · skip
                        refine ⟨fun v g' => g' = g136 ∧ (v = 1 ∧ isSg (toks g136) 61 (g136 2 7).toNat ∨ v = 0 ∧ ¬ isSg (toks g136) 61 (g136 2 7).toNat), ?_, ?_⟩
                        · skip
                          exact v_1299
                        · skip
                          intro x144 hx1441 hx1442 g147 rg147 qg147
                          refine ⟨fun h149 => ?_, fun h149 => ?_⟩
                          · skip
                            have E0 : EN s0 g := EN_fr rg (by decide) (by decide) (by decide)
                            obtain ⟨Q1, N1⟩ : g30 = g ∧ (x27 = 1 ∧ isSg (toks g) 91 (g 2 7).toNat ∨ x27 = 0 ∧ ¬ isSg (toks g) 91 (g 2 7).toNat) := qg30
                            have B1 := sg_q E0 N1
                            have E1 : EN s0 g30 := by
                              rw [Q1]
                              exact E0
                            obtain ⟨Q2, N2⟩ : g103 = g30 ∧ x100 = tokI (toks g30) (g30 2 7).toNat := qg103
                            rw [E1.1] at N2
                            have E2 : EN s0 g103 := by
                              rw [Q2]
                              exact E1
                            have R3 : RSp 4 g103 x111 g114 := qg114
                            have F3 : EN g103 g114 := EN_fr rg114 (by decide) (by decide) (by decide)
                            have E3 : EN s0 g114 := EN_trans E2 F3
                            obtain ⟨Q4, N4⟩ : g125 = g114 ∧ (x122 = 1 ∧ isSg (toks g114) 60 (g114 2 7).toNat ∨ x122 = 0 ∧ ¬ isSg (toks g114) 60 (g114 2 7).toNat) := qg125
                            have B4 := sg_q E3 N4
                            have E4 : EN s0 g125 := by
                              rw [Q4]
                              exact E3
                            obtain ⟨Q5, N5⟩ : g136 = g125 ∧ (x133 = 1 ∧ isSg (toks g125) 62 (g125 2 7).toNat ∨ x133 = 0 ∧ ¬ isSg (toks g125) 62 (g125 2 7).toNat) := qg136
                            have B5 := sg_q E4 N5
                            have E5 : EN s0 g136 := by
                              rw [Q5]
                              exact E4
                            obtain ⟨Q6, N6⟩ : g147 = g136 ∧ (x144 = 1 ∧ isSg (toks g136) 61 (g136 2 7).toNat ∨ x144 = 0 ∧ ¬ isSg (toks g136) 61 (g136 2 7).toNat) := qg147
                            have B6 := sg_q E5 N6
                            have E6 : EN s0 g147 := by
                              rw [Q6]
                              exact E5
                            have S1 : sgB (toks s0) 91 (g 2 7).toNat = false := by
                              rcases B1 with ⟨z, y⟩ | ⟨z, y⟩
                              · exact absurd z (by omega)
                              · exact y
                            have S4 : sgB (toks s0) 60 (g114 2 7).toNat = false := by
                              rcases B4 with ⟨z, y⟩ | ⟨z, y⟩
                              · exact absurd z (by omega)
                              · exact y
                            have S5 : sgB (toks s0) 62 (g125 2 7).toNat = false := by
                              rcases B5 with ⟨z, y⟩ | ⟨z, y⟩
                              · exact absurd z (by omega)
                              · exact y
                            have S6 : sgB (toks s0) 61 (g136 2 7).toNat = true := by
                              rcases B6 with ⟨z, y⟩ | ⟨z, y⟩
                              · exact y
                              · exact absurd z (by omega)
                            have e2 : g103 = g := Q2.trans Q1
                            have D2 : g103 2 7 = g 2 7 := by rw [e2]
                            rw [Q1] at N2
                            have h24 : tokI (toks s0) (g 2 7).toNat ≠ 24 := by omega
                            rw [e2] at R3 F3
                            have M3 : CM1 4 s0 g114 := FPR_sum hp h23 h24 S1 R3 F3 (by omega) (by omega) (by omega)
                            have hb3 := TW_b M3.1
                            have lt3 : g 2 7 < g114 2 7 := (R3.1 (by omega)).1
                            rw [Q4] at S5
                            rw [Q5, Q4] at S6
                            rw [Q6, Q5, Q4]
                            exact ⟨_, by omega, rfl, M3, fun _ => cmB_3 (Or.inr (Or.inr S6)), fun z => absurd z (by decide)⟩
                          · skip
                            have E0 : EN s0 g := EN_fr rg (by decide) (by decide) (by decide)
                            obtain ⟨Q1, N1⟩ : g30 = g ∧ (x27 = 1 ∧ isSg (toks g) 91 (g 2 7).toNat ∨ x27 = 0 ∧ ¬ isSg (toks g) 91 (g 2 7).toNat) := qg30
                            have B1 := sg_q E0 N1
                            have E1 : EN s0 g30 := by
                              rw [Q1]
                              exact E0
                            obtain ⟨Q2, N2⟩ : g103 = g30 ∧ x100 = tokI (toks g30) (g30 2 7).toNat := qg103
                            rw [E1.1] at N2
                            have E2 : EN s0 g103 := by
                              rw [Q2]
                              exact E1
                            have R3 : RSp 4 g103 x111 g114 := qg114
                            have F3 : EN g103 g114 := EN_fr rg114 (by decide) (by decide) (by decide)
                            have E3 : EN s0 g114 := EN_trans E2 F3
                            obtain ⟨Q4, N4⟩ : g125 = g114 ∧ (x122 = 1 ∧ isSg (toks g114) 60 (g114 2 7).toNat ∨ x122 = 0 ∧ ¬ isSg (toks g114) 60 (g114 2 7).toNat) := qg125
                            have B4 := sg_q E3 N4
                            have E4 : EN s0 g125 := by
                              rw [Q4]
                              exact E3
                            obtain ⟨Q5, N5⟩ : g136 = g125 ∧ (x133 = 1 ∧ isSg (toks g125) 62 (g125 2 7).toNat ∨ x133 = 0 ∧ ¬ isSg (toks g125) 62 (g125 2 7).toNat) := qg136
                            have B5 := sg_q E4 N5
                            have E5 : EN s0 g136 := by
                              rw [Q5]
                              exact E4
                            obtain ⟨Q6, N6⟩ : g147 = g136 ∧ (x144 = 1 ∧ isSg (toks g136) 61 (g136 2 7).toNat ∨ x144 = 0 ∧ ¬ isSg (toks g136) 61 (g136 2 7).toNat) := qg147
                            have B6 := sg_q E5 N6
                            have E6 : EN s0 g147 := by
                              rw [Q6]
                              exact E5
                            have S1 : sgB (toks s0) 91 (g 2 7).toNat = false := by
                              rcases B1 with ⟨z, y⟩ | ⟨z, y⟩
                              · exact absurd z (by omega)
                              · exact y
                            have S4 : sgB (toks s0) 60 (g114 2 7).toNat = false := by
                              rcases B4 with ⟨z, y⟩ | ⟨z, y⟩
                              · exact absurd z (by omega)
                              · exact y
                            have S5 : sgB (toks s0) 62 (g125 2 7).toNat = false := by
                              rcases B5 with ⟨z, y⟩ | ⟨z, y⟩
                              · exact absurd z (by omega)
                              · exact y
                            have S6 : sgB (toks s0) 61 (g136 2 7).toNat = false := by
                              rcases B6 with ⟨z, y⟩ | ⟨z, y⟩
                              · exact absurd z (by omega)
                              · exact y
                            have e2 : g103 = g := Q2.trans Q1
                            have D2 : g103 2 7 = g 2 7 := by rw [e2]
                            rw [Q1] at N2
                            have h24 : tokI (toks s0) (g 2 7).toNat ≠ 24 := by omega
                            rw [e2] at R3 F3
                            have M3 : CM1 4 s0 g114 := FPR_sum hp h23 h24 S1 R3 F3 (by omega) (by omega) (by omega)
                            have hb3 := TW_b M3.1
                            have lt3 : g 2 7 < g114 2 7 := (R3.1 (by omega)).1
                            rw [Q4] at S5
                            rw [Q5, Q4] at S6
                            rw [Q6, Q5, Q4]
                            exact ⟨_, by omega, rfl, M3, fun z => absurd rfl z, fun _ => cmB_0 S4 S5 S6⟩
              · skip
                have E0 : EN s0 g := EN_fr rg (by decide) (by decide) (by decide)
                obtain ⟨Q1, N1⟩ : g30 = g ∧ (x27 = 1 ∧ isSg (toks g) 91 (g 2 7).toNat ∨ x27 = 0 ∧ ¬ isSg (toks g) 91 (g 2 7).toNat) := qg30
                have B1 := sg_q E0 N1
                have E1 : EN s0 g30 := by
                  rw [Q1]
                  exact E0
                obtain ⟨Q2, N2⟩ : g103 = g30 ∧ x100 = tokI (toks g30) (g30 2 7).toNat := qg103
                rw [E1.1] at N2
                have E2 : EN s0 g103 := by
                  rw [Q2]
                  exact E1
                have R3 : RSp 4 g103 x111 g114 := qg114
                have F3 : EN g103 g114 := EN_fr rg114 (by decide) (by decide) (by decide)
                have E3 : EN s0 g114 := EN_trans E2 F3
                have S1 : sgB (toks s0) 91 (g 2 7).toNat = false := by
                  rcases B1 with ⟨z, y⟩ | ⟨z, y⟩
                  · exact absurd z (by omega)
                  · exact y
                have e2 : g103 = g := Q2.trans Q1
                have D2 : g103 2 7 = g 2 7 := by rw [e2]
                rw [Q1] at N2
                have h24 : tokI (toks s0) (g 2 7).toNat ≠ 24 := by omega
                rw [e2] at R3
                exact FPR_sum0 hp h23 h24 S1 R3 (by omega)
          · skip
            refine ⟨fun g' => g' = stp g103, ?_, ?_⟩
            · skip
              exact v_1289
            · skip
              intro g155 rg155 qg155
              intro b157 eb157 fb157
              refine ⟨fun _ => True, ?_, ?_⟩
              · skip
                exact v_515
              · skip
                intro g166 rg166 qg166
                intro x168 ex168 fx168 gx168
                refine ⟨fun h172 => ?_, fun h172 => ?_⟩
                · skip
                  have E0 : EN s0 g := EN_fr rg (by decide) (by decide) (by decide)
                  obtain ⟨Q1, N1⟩ : g30 = g ∧ (x27 = 1 ∧ isSg (toks g) 91 (g 2 7).toNat ∨ x27 = 0 ∧ ¬ isSg (toks g) 91 (g 2 7).toNat) := qg30
                  have B1 := sg_q E0 N1
                  have E1 : EN s0 g30 := by
                    rw [Q1]
                    exact E0
                  obtain ⟨Q2, N2⟩ : g103 = g30 ∧ x100 = tokI (toks g30) (g30 2 7).toNat := qg103
                  rw [E1.1] at N2
                  have E2 : EN s0 g103 := by
                    rw [Q2]
                    exact E1
                  have T3 : g155 = stp g103 := qg155
                  have E3 : EN s0 g155 := EN_trans E2 (EN_fr rg155 (by decide) (by decide) (by decide))
                  have Z4 : EN g155 g166 ∧ g166 2 = g155 2 := by
                    first
                      | exact EN_put fb157 rg166
                  have E4 : EN s0 g166 := EN_trans E3 Z4.1
                  have S1 : sgB (toks s0) 91 (g 2 7).toNat = false := by
                    rcases B1 with ⟨z, y⟩ | ⟨z, y⟩
                    · exact absurd z (by omega)
                    · exact y
                  rw [Q1] at N2
                  rw [Q2, Q1] at T3
                  have P3 : FPO 4 s0 g155 := FPR_all hp (by omega) T3
                  have P4 := FPO_en P3 Z4.1 Z4.2
                  exact FPO_fact P4
                · skip
                  refine ⟨fun _ => True, ?_, ?_⟩
                  · skip
                    exact v_515
                  · skip
                    intro g179 rg179 qg179
                    have E0 : EN s0 g := EN_fr rg (by decide) (by decide) (by decide)
                    obtain ⟨Q1, N1⟩ : g30 = g ∧ (x27 = 1 ∧ isSg (toks g) 91 (g 2 7).toNat ∨ x27 = 0 ∧ ¬ isSg (toks g) 91 (g 2 7).toNat) := qg30
                    have B1 := sg_q E0 N1
                    have E1 : EN s0 g30 := by
                      rw [Q1]
                      exact E0
                    obtain ⟨Q2, N2⟩ : g103 = g30 ∧ x100 = tokI (toks g30) (g30 2 7).toNat := qg103
                    rw [E1.1] at N2
                    have E2 : EN s0 g103 := by
                      rw [Q2]
                      exact E1
                    have T3 : g155 = stp g103 := qg155
                    have E3 : EN s0 g155 := EN_trans E2 (EN_fr rg155 (by decide) (by decide) (by decide))
                    have Z4 : EN g155 g166 ∧ g166 2 = g155 2 := by
                      first
                        | exact EN_put fb157 rg166
                    have E4 : EN s0 g166 := EN_trans E3 Z4.1
                    have Z5 : EN g166 g179 ∧ g179 2 = g166 2 := by
                      first
                        | exact EN_put fb157 rg179
                    have E5 : EN s0 g179 := EN_trans E4 Z5.1
                    have S1 : sgB (toks s0) 91 (g 2 7).toNat = false := by
                      rcases B1 with ⟨z, y⟩ | ⟨z, y⟩
                      · exact absurd z (by omega)
                      · exact y
                    rw [Q1] at N2
                    rw [Q2, Q1] at T3
                    have P3 : FPO 4 s0 g155 := FPR_all hp (by omega) T3
                    have P4 := FPO_en P3 Z4.1 Z4.2
                    have P5 := FPO_en P4 Z5.1 Z5.2
                    exact FPO_fact P5
  · intro n g v167_2 s167_0 rg qv167_20 qv167_21 qs167_00 qs167_01 hI
    obtain ⟨hn, hp, hs1, hs0⟩ := hI
    have hb := TW_b hp.1
    refine ⟨fun h181 => ?_, fun h181 => ?_⟩
    · skip
      refine ⟨fun g' => g' = stp g, ?_, ?_⟩
      · skip
        exact v_1289
      · skip
        intro g187 rg187 qg187
        refine ⟨fun v g' => RSp 4 g187 v g', ?_, ?_⟩
        · skip
          have E0 : EN s0 g := EN_fr rg (by decide) (by decide) (by decide)
          have T1 : g187 = stp g := qg187
          have E1 : EN s0 g187 := EN_trans E0 (EN_fr rg187 (by decide) (by decide) (by decide))
          have O1 : CM2 4 s0 g187 := CM1_cmp hp (hs1 (by omega)) T1
          exact v_1297_c4 (OWS_en hw E1) O1.1
        · skip
          intro x194 hx1941 hx1942 g197 rg197 qg197
          refine ⟨fun h199 => ?_, fun h199 => ?_⟩
          · skip
            intro b200 eb200 fb200
            refine ⟨fun _ => True, ?_, ?_⟩
            · skip
              exact v_515
            · skip
              intro g209 rg209 qg209
              intro x211 ex211 fx211 gx211
              refine ⟨fun h215 => ?_, fun h215 => ?_⟩
              · skip
                have E0 : EN s0 g := EN_fr rg (by decide) (by decide) (by decide)
                have T1 : g187 = stp g := qg187
                have E1 : EN s0 g187 := EN_trans E0 (EN_fr rg187 (by decide) (by decide) (by decide))
                have R2 : RSp 4 g187 x194 g197 := qg197
                have F2 : EN g187 g197 := EN_fr rg197 (by decide) (by decide) (by decide)
                have E2 : EN s0 g197 := EN_trans E1 F2
                have Z3 : EN g197 g209 ∧ g209 2 = g197 2 := by
                  first
                    | exact EN_put fb200 rg209
                have E3 : EN s0 g209 := EN_trans E2 Z3.1
                have O1 : CM2 4 s0 g187 := CM1_cmp hp (hs1 (by omega)) T1
                have P2 : FPO 4 s0 g197 := CM2_sum O1 R2 F2 (by omega) (by omega) (by omega)
                have P3 := FPO_en P2 Z3.1 Z3.2
                exact FPO_fact P3
              · skip
                refine ⟨fun _ => True, ?_, ?_⟩
                · skip
                  exact v_515
                · skip
                  intro g222 rg222 qg222
                  have E0 : EN s0 g := EN_fr rg (by decide) (by decide) (by decide)
                  have T1 : g187 = stp g := qg187
                  have E1 : EN s0 g187 := EN_trans E0 (EN_fr rg187 (by decide) (by decide) (by decide))
                  have R2 : RSp 4 g187 x194 g197 := qg197
                  have F2 : EN g187 g197 := EN_fr rg197 (by decide) (by decide) (by decide)
                  have E2 : EN s0 g197 := EN_trans E1 F2
                  have Z3 : EN g197 g209 ∧ g209 2 = g197 2 := by
                    first
                      | exact EN_put fb200 rg209
                  have E3 : EN s0 g209 := EN_trans E2 Z3.1
                  have Z4 : EN g209 g222 ∧ g222 2 = g209 2 := by
                    first
                      | exact EN_put fb200 rg222
                  have E4 : EN s0 g222 := EN_trans E3 Z4.1
                  have O1 : CM2 4 s0 g187 := CM1_cmp hp (hs1 (by omega)) T1
                  have P2 : FPO 4 s0 g197 := CM2_sum O1 R2 F2 (by omega) (by omega) (by omega)
                  have P3 := FPO_en P2 Z3.1 Z3.2
                  have P4 := FPO_en P3 Z4.1 Z4.2
                  exact FPO_fact P4
          · skip
            have E0 : EN s0 g := EN_fr rg (by decide) (by decide) (by decide)
            have T1 : g187 = stp g := qg187
            have E1 : EN s0 g187 := EN_trans E0 (EN_fr rg187 (by decide) (by decide) (by decide))
            have R2 : RSp 4 g187 x194 g197 := qg197
            have F2 : EN g187 g197 := EN_fr rg197 (by decide) (by decide) (by decide)
            have E2 : EN s0 g197 := EN_trans E1 F2
            have O1 : CM2 4 s0 g187 := CM1_cmp hp (hs1 (by omega)) T1
            exact CM2_sum0 O1 R2 (by omega)
    · skip
      refine ⟨fun _ g' => (g' 2 0, g' 2 1) = ((1 : Int), if (1 : Int) = 1 ∧ g 4 (g 2 7).toNat = 1 then g 5 (g 2 7).toNat else g 6 (g 2 7).toNat), ?_, ?_⟩
      · skip
        exact v_1286
      · skip
        intro x229 hx2291 hx2292 g232 rg232 qg232
        have E0 : EN s0 g := EN_fr rg (by decide) (by decide) (by decide)
        have X1 : (g232 2 0, g232 2 1) = ((1 : Int), if (1 : Int) = 1 ∧ g 4 (g 2 7).toNat = 1 then g 5 (g 2 7).toNat else g 6 (g 2 7).toNat) := qg232
        have E1 : EN s0 g232 := EN_trans E0 (EN_fr rg232 (by decide) (by decide) (by decide))
        have Y1 := flt_q X1
        rw [E0.1] at Y1
        exact CM1_none hp (hs0 (by omega)) (by omega) Y1
set_option maxHeartbeats 4000000 in
theorem v_1300_c4 {s0 : zF} (hw : OWS s0) (ht : TW s0) : b_1300_c4 s0 (fun v g => RTp 4 s0 v g) := by
  refine ⟨fun n g v2_2 => n = (20 * (2000 - g 2 7) + 9).toNat ∧ FPR 4 s0 g ∧ v2_2 ≤ g 2 7, fun n g v11_2 v11_3 => n = (20 * (2000 - g 2 7) + 8).toNat ∧ FPR 4 s0 g ∧ v11_2 ≤ g 2 7 ∧ v11_3 ≤ g 2 7, fun n g v44_2 v44_3 => n = (20 * (2000 - g 2 7) + 7).toNat ∧ FPO 4 s0 g ∧ v44_2 ≤ g 2 7 ∧ v44_3 ≤ g 2 7, fun n g v66_2 => n = (20 * (2000 - g 2 7) + 6).toNat ∧ FPO 4 s0 g ∧ v66_2 ≤ g 2 7 ∧ tokI (toks s0) (g 2 7).toNat ≠ 22, ?_, ?_, ?_, ?_, ?_⟩
  · skip
    exact ⟨_, rfl, FPR_0 ht, by have := TW_b ht; omega⟩
  · intro n g v2_2 rg qv2_20 qv2_21 hI
    obtain ⟨hn, hp, h3⟩ := hI
    have hb := TW_b hp.1
    refine ⟨fun h1 => ?_, fun h1 => ?_⟩
    · skip
      exfalso
      omega
    · skip
      exact ⟨_, by omega, rfl, hp, h3, by omega⟩
  · intro n g v11_2 v11_3 rg qv11_20 qv11_21 qv11_30 qv11_31 hI
    obtain ⟨hn, hp, h3, h5⟩ := hI
    have hb := TW_b hp.1
    refine ⟨fun h2 => ?_, fun h2 => ?_⟩
    · skip
      exfalso
      omega
    · skip
      refine ⟨fun v g' => RFp 4 g v g', ?_, ?_⟩
      · skip
        have E0 : EN s0 g := EN_fr rg (by decide) (by decide) (by decide)
        exact v_1301_c4 (OWS_en hw E0) hp.1
      · skip
        intro x8 hx81 hx82 g11 rg11 qg11
        refine ⟨fun h13 => ?_, fun h13 => ?_⟩
        · skip
          refine ⟨fun h14 => ?_, fun h14 => ?_⟩
          · skip
            intro b15 eb15 fb15
            refine ⟨fun _ => True, ?_, ?_⟩
            · skip
              exact v_515
            · skip
              intro g24 rg24 qg24
              have E0 : EN s0 g := EN_fr rg (by decide) (by decide) (by decide)
              have R1 : RFp 4 g x8 g11 := qg11
              have F1 : EN g g11 := EN_fr rg11 (by decide) (by decide) (by decide)
              have E1 : EN s0 g11 := EN_trans E0 F1
              have Z2 : EN g11 g24 ∧ g24 2 = g11 2 := by
                first
                  | exact EN_put fb15 rg24
              have E2 : EN s0 g24 := EN_trans E1 Z2.1
              obtain ⟨p1, p2⟩ := FPR_fact hp R1 F1 (by omega) (by omega) (by omega)
              have p3 := FPO_en p1 Z2.1 Z2.2
              have e7 : g24 2 7 = g11 2 7 := by rw [Z2.2]
              exact ⟨_, by omega, rfl, p3, by omega, by omega⟩
          · skip
            have E0 : EN s0 g := EN_fr rg (by decide) (by decide) (by decide)
            have R1 : RFp 4 g x8 g11 := qg11
            have F1 : EN g g11 := EN_fr rg11 (by decide) (by decide) (by decide)
            have E1 : EN s0 g11 := EN_trans E0 F1
            obtain ⟨p1, p2⟩ := FPR_fact hp R1 F1 (by omega) (by omega) (by omega)
            exact ⟨_, by omega, rfl, p1, by omega, by omega⟩
        · skip
          have E0 : EN s0 g := EN_fr rg (by decide) (by decide) (by decide)
          have R1 : RFp 4 g x8 g11 := qg11
          have F1 : EN g g11 := EN_fr rg11 (by decide) (by decide) (by decide)
          have E1 : EN s0 g11 := EN_trans E0 F1
          exact FPR_fact0 hp R1 (by omega)
  · intro n g v44_2 v44_3 rg qv44_20 qv44_21 qv44_30 qv44_31 hI
    obtain ⟨hn, hp, h3, h5⟩ := hI
    have hb := TW_b hp.1
    refine ⟨fun v g' => g' = g ∧ v = tokI (toks g) (g 2 7).toNat, ?_, ?_⟩
    · skip
      have E0 : EN s0 g := EN_fr rg (by decide) (by decide) (by decide)
      exact v_1287 (OWS_en hw E0)
    · skip
      intro x31 hx311 hx312 g34 rg34 qg34
      refine ⟨fun h36 => ?_, fun h36 => ?_⟩
      · skip
        have E0 : EN s0 g := EN_fr rg (by decide) (by decide) (by decide)
        obtain ⟨Q1, N1⟩ : g34 = g ∧ x31 = tokI (toks g) (g 2 7).toNat := qg34
        rw [E0.1] at N1
        have E1 : EN s0 g34 := by
          rw [Q1]
          exact E0
        rw [Q1]
        exact ⟨_, by omega, rfl, hp, h3, by omega⟩
      · skip
        refine ⟨fun g' => g' = stp g34, ?_, ?_⟩
        · skip
          exact v_1289
        · skip
          intro g42 rg42 qg42
          intro x44 ex44
          have E0 : EN s0 g := EN_fr rg (by decide) (by decide) (by decide)
          obtain ⟨Q1, N1⟩ : g34 = g ∧ x31 = tokI (toks g) (g 2 7).toNat := qg34
          rw [E0.1] at N1
          have E1 : EN s0 g34 := by
            rw [Q1]
            exact E0
          have T2 : g42 = stp g34 := qg42
          have E2 : EN s0 g42 := EN_trans E1 (EN_fr rg42 (by decide) (by decide) (by decide))
          rw [Q1] at T2
          obtain ⟨p1, p2⟩ := FPO_ao hp (Or.inl (by omega)) T2
          exact ⟨_, by omega, rfl, p1, by omega, by omega⟩
  · intro n g v66_2 rg qv66_20 qv66_21 hI
    obtain ⟨hn, hp, h3, h22⟩ := hI
    have hb := TW_b hp.1
    refine ⟨fun h46 => ?_, fun h46 => ?_⟩
    · skip
      intro b47 eb47 fb47
      refine ⟨fun _ => True, ?_, ?_⟩
      · skip
        exact v_515
      · skip
        intro g56 rg56 qg56
        refine ⟨fun v g' => g' = g56 ∧ v = tokI (toks g56) (g56 2 7).toNat, ?_, ?_⟩
        · skip
          have E0 : EN s0 g := EN_fr rg (by decide) (by decide) (by decide)
          have Z1 : EN g g56 ∧ g56 2 = g 2 := by
            first
              | exact EN_put fb47 rg56
          have E1 : EN s0 g56 := EN_trans E0 Z1.1
          exact v_1287 (OWS_en hw E1)
        · skip
          intro x63 hx631 hx632 g66 rg66 qg66
          refine ⟨fun h68 => ?_, fun h68 => ?_⟩
          · skip
            have E0 : EN s0 g := EN_fr rg (by decide) (by decide) (by decide)
            have Z1 : EN g g56 ∧ g56 2 = g 2 := by
              first
                | exact EN_put fb47 rg56
            have E1 : EN s0 g56 := EN_trans E0 Z1.1
            obtain ⟨Q2, N2⟩ : g66 = g56 ∧ x63 = tokI (toks g56) (g56 2 7).toNat := qg66
            rw [E1.1] at N2
            have E2 : EN s0 g66 := by
              rw [Q2]
              exact E1
            have hq := FPO_en hp Z1.1 Z1.2
            have e7 : g56 2 7 = g 2 7 := by rw [Z1.2]
            show RTp 4 s0 1 g66
            rw [Q2]
            exact FPO_end hq (by rw [e7]; exact h22) (by omega)
          · skip
            refine ⟨fun g' => g' = stp g66, ?_, ?_⟩
            · skip
              exact v_1289
            · skip
              intro g74 rg74 qg74
              intro x76 ex76
              have E0 : EN s0 g := EN_fr rg (by decide) (by decide) (by decide)
              have Z1 : EN g g56 ∧ g56 2 = g 2 := by
                first
                  | exact EN_put fb47 rg56
              have E1 : EN s0 g56 := EN_trans E0 Z1.1
              obtain ⟨Q2, N2⟩ : g66 = g56 ∧ x63 = tokI (toks g56) (g56 2 7).toNat := qg66
              rw [E1.1] at N2
              have E2 : EN s0 g66 := by
                rw [Q2]
                exact E1
              have T3 : g74 = stp g66 := qg74
              have E3 : EN s0 g74 := EN_trans E2 (EN_fr rg74 (by decide) (by decide) (by decide))
              have hq := FPO_en hp Z1.1 Z1.2
              have e7 : g56 2 7 = g 2 7 := by rw [Z1.2]
              rw [Q2] at T3
              obtain ⟨p1, p2⟩ := FPO_ao hq (Or.inr (by omega)) T3
              exact ⟨_, by omega, rfl, p1, by omega⟩
    · skip
      refine ⟨fun v g' => g' = g ∧ v = tokI (toks g) (g 2 7).toNat, ?_, ?_⟩
      · skip
        have E0 : EN s0 g := EN_fr rg (by decide) (by decide) (by decide)
        exact v_1287 (OWS_en hw E0)
      · skip
        intro x83 hx831 hx832 g86 rg86 qg86
        refine ⟨fun h88 => ?_, fun h88 => ?_⟩
        · skip
          have E0 : EN s0 g := EN_fr rg (by decide) (by decide) (by decide)
          obtain ⟨Q1, N1⟩ : g86 = g ∧ x83 = tokI (toks g) (g 2 7).toNat := qg86
          rw [E0.1] at N1
          have E1 : EN s0 g86 := by
            rw [Q1]
            exact E0
          show RTp 4 s0 1 g86
          rw [Q1]
          exact FPO_end hp h22 (by omega)
        · skip
          refine ⟨fun g' => g' = stp g86, ?_, ?_⟩
          · skip
            exact v_1289
          · skip
            intro g94 rg94 qg94
            intro x96 ex96
            have E0 : EN s0 g := EN_fr rg (by decide) (by decide) (by decide)
            obtain ⟨Q1, N1⟩ : g86 = g ∧ x83 = tokI (toks g) (g 2 7).toNat := qg86
            rw [E0.1] at N1
            have E1 : EN s0 g86 := by
              rw [Q1]
              exact E0
            have T2 : g94 = stp g86 := qg94
            have E2 : EN s0 g94 := EN_trans E1 (EN_fr rg94 (by decide) (by decide) (by decide))
            rw [Q1] at T2
            obtain ⟨p1, p2⟩ := FPO_ao hp (Or.inr (by omega)) T2
            exact ⟨_, by omega, rfl, p1, by omega⟩
