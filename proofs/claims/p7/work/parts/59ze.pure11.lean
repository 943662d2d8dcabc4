/-! pure proofs of the Reader: readLaw, read (wip/safe/vcp.py) -/
set_option maxHeartbeats 4000000 in
theorem v_1296 {s0 : zF} {a0 : Int} (hw : OWS s0) (ht : TW s0) (hk : s0 4 (s0 2 7).toNat = 2) : b_1296 s0 a0 (fun v g => ∃ b : Nat, (b : Int) = s0 2 8 ∧ (8 ≤ s0 (b + 13) 0 ∧ v = 0 ∧ (g 2 0, g 2 1) = (5, s0 6 (s0 2 7).toNat) ∨ s0 (b + 13) 0 < 8 ∧ (∃ r, spLaw (toks s0) (s0 2 7).toNat r ∧ PO r v g) ∧ (v = 1 → g (b + 13) 0 = s0 (b + 13) 0 + 1))) := by
  unfold b_1296
  intro b1 eb1 fb1
  intro x5 ex5 fx5 gx5
  refine ⟨fun h9 => ?_, fun h9 => ?_⟩
  · skip
    refine ⟨fun g' => g' = stp s0, ?_, ?_⟩
    · skip
      exact v_1289
    · skip
      intro g15 rg15 qg15
      refine ⟨fun _ => True, ?_, ?_⟩
      · skip
        exact v_514
      · skip
        intro g23 rg23 qg23
        refine ⟨fun v g' => RSp 0 g23 v g', ?_, ?_⟩
        · skip
          have T1 : g15 = stp s0 := qg15
          obtain ⟨W1, D1, M1, E1⟩ := stp_ok ht (by rw [hk]; decide) (by rw [hk]; decide) T1
          have C1 : g15 (b1 + 13) 0 = s0 (b1 + 13) 0 := congrFun (stp_na T1 (by omega)) 0
          have F2 : EN g15 g23 := by
            rcases fb1 with z | z <;> (subst z; exact EN_fr rg23 (by decide) (by decide) (by decide))
          have E2 : EN s0 g23 := EN_trans E1 F2
          have C2 : g23 (b1 + 13) 0 = s0 (b1 + 13) 0 := by
            rw [← C1]
            rcases fb1 with z | z <;> (subst z; exact rg23.s (by decide))
          have A2 : g23 2 = g15 2 := by
            rcases fb1 with z | z <;> (subst z; exact rg23.a (by decide))
          have W2 : TW g23 := TW_en W1 F2 (congrFun A2 7)
          exact v_1297_c0 (OWS_en hw E2) W2
        · skip
          intro x30 hx301 hx302 g33 rg33 qg33
          refine ⟨fun h35 => ?_, fun h35 => ?_⟩
          · skip
            refine ⟨fun v g' => PO (nOw (toks g33) 20 (g33 2 7).toNat) v g', ?_, ?_⟩
            · skip
              have T1 : g15 = stp s0 := qg15
              obtain ⟨W1, D1, M1, E1⟩ := stp_ok ht (by rw [hk]; decide) (by rw [hk]; decide) T1
              have C1 : g15 (b1 + 13) 0 = s0 (b1 + 13) 0 := congrFun (stp_na T1 (by omega)) 0
              have F2 : EN g15 g23 := by
                rcases fb1 with z | z <;> (subst z; exact EN_fr rg23 (by decide) (by decide) (by decide))
              have E2 : EN s0 g23 := EN_trans E1 F2
              have C2 : g23 (b1 + 13) 0 = s0 (b1 + 13) 0 := by
                rw [← C1]
                rcases fb1 with z | z <;> (subst z; exact rg23.s (by decide))
              have A2 : g23 2 = g15 2 := by
                rcases fb1 with z | z <;> (subst z; exact rg23.a (by decide))
              have W2 : TW g23 := TW_en W1 F2 (congrFun A2 7)
              have F3 : EN g23 g33 := by
                rcases fb1 with z | z <;> (subst z; exact EN_fr rg33 (by decide) (by decide) (by decide))
              have E3 : EN s0 g33 := EN_trans E2 F3
              have C3 : g33 (b1 + 13) 0 = s0 (b1 + 13) 0 := by
                rw [← C2]
                rcases fb1 with z | z <;> (subst z; exact rg33.s (by decide))
              have R3 := law_sum (qg33 : RSp 0 g23 x30 g33)
              rw [E2.1, congrFun A2 7, M1] at R3
              rcases R3 with ⟨-, H3, W3⟩ | ⟨z, -⟩
              rotate_left
              · exact absurd z (by omega)
              exact v_1291 (OWS_en hw E3) W3 (by decide)
            · skip
              intro x41 hx411 hx412 g44 rg44 qg44
              refine ⟨fun h46 => ?_, fun h46 => ?_⟩
              · skip
                refine ⟨fun _ => True, ?_, ?_⟩
                · skip
                  exact v_516
                · skip
                  intro g53 rg53 qg53
                  refine ⟨fun v g' => RTp 0 g53 v g', ?_, ?_⟩
                  · skip
                    have T1 : g15 = stp s0 := qg15
                    obtain ⟨W1, D1, M1, E1⟩ := stp_ok ht (by rw [hk]; decide) (by rw [hk]; decide) T1
                    have C1 : g15 (b1 + 13) 0 = s0 (b1 + 13) 0 := congrFun (stp_na T1 (by omega)) 0
                    have F2 : EN g15 g23 := by
                      rcases fb1 with z | z <;> (subst z; exact EN_fr rg23 (by decide) (by decide) (by decide))
                    have E2 : EN s0 g23 := EN_trans E1 F2
                    have C2 : g23 (b1 + 13) 0 = s0 (b1 + 13) 0 := by
                      rw [← C1]
                      rcases fb1 with z | z <;> (subst z; exact rg23.s (by decide))
                    have A2 : g23 2 = g15 2 := by
                      rcases fb1 with z | z <;> (subst z; exact rg23.a (by decide))
                    have W2 : TW g23 := TW_en W1 F2 (congrFun A2 7)
                    have F3 : EN g23 g33 := by
                      rcases fb1 with z | z <;> (subst z; exact EN_fr rg33 (by decide) (by decide) (by decide))
                    have E3 : EN s0 g33 := EN_trans E2 F3
                    have C3 : g33 (b1 + 13) 0 = s0 (b1 + 13) 0 := by
                      rw [← C2]
                      rcases fb1 with z | z <;> (subst z; exact rg33.s (by decide))
                    have R3 := law_sum (qg33 : RSp 0 g23 x30 g33)
                    rw [E2.1, congrFun A2 7, M1] at R3
                    rcases R3 with ⟨-, H3, W3⟩ | ⟨z, -⟩
                    rotate_left
                    · exact absurd z (by omega)
                    have F4 : EN g33 g44 := by
                      rcases fb1 with z | z <;> (subst z; exact EN_fr rg44 (by decide) (by decide) (by decide))
                    have E4 : EN s0 g44 := EN_trans E3 F4
                    have C4 : g44 (b1 + 13) 0 = s0 (b1 + 13) 0 := by
                      rw [← C3]
                      rcases fb1 with z | z <;> (subst z; exact rg44.s (by decide))
                    have R4 : PO (nOw (toks g33) 20 (g33 2 7).toNat) x41 g44 := qg44
                    rw [E3.1] at R4
                    obtain ⟨H4, W4⟩ := PO_1 R4 (by omega)
                    have F5 : EN g44 g53 := by
                      rcases fb1 with z | z <;> (subst z; exact EN_fr rg53 (by decide) (by decide) (by decide))
                    have E5 : EN s0 g53 := EN_trans E4 F5
                    have C5 : g53 (b1 + 13) 0 = s0 (b1 + 13) 0 := by
                      rw [← C4]
                      rcases fb1 with z | z <;> (subst z; exact rg53.s (by decide))
                    have A5 : g53 2 = g44 2 := by
                      rcases fb1 with z | z <;> (subst z; exact rg53.a (by decide))
                    have W5 : TW g53 := TW_en W4 F5 (congrFun A5 7)
                    exact v_1300_c0 (OWS_en hw E5) W5
                  · skip
                    intro x60 hx601 hx602 g63 rg63 qg63
                    refine ⟨fun h65 => ?_, fun h65 => ?_⟩
                    · skip
                      refine ⟨fun g' => g63 (b1 + 13) 0 < 8 → g' (b1 + 13) 0 = g63 (b1 + 13) 0 + 1, ?_, ?_⟩
                      · skip
                        exact v_517
                      · skip
                        intro g72 rg72 qg72
                        have T1 : g15 = stp s0 := qg15
                        obtain ⟨W1, D1, M1, E1⟩ := stp_ok ht (by rw [hk]; decide) (by rw [hk]; decide) T1
                        have C1 : g15 (b1 + 13) 0 = s0 (b1 + 13) 0 := congrFun (stp_na T1 (by omega)) 0
                        have F2 : EN g15 g23 := by
                          rcases fb1 with z | z <;> (subst z; exact EN_fr rg23 (by decide) (by decide) (by decide))
                        have E2 : EN s0 g23 := EN_trans E1 F2
                        have C2 : g23 (b1 + 13) 0 = s0 (b1 + 13) 0 := by
                          rw [← C1]
                          rcases fb1 with z | z <;> (subst z; exact rg23.s (by decide))
                        have A2 : g23 2 = g15 2 := by
                          rcases fb1 with z | z <;> (subst z; exact rg23.a (by decide))
                        have W2 : TW g23 := TW_en W1 F2 (congrFun A2 7)
                        have F3 : EN g23 g33 := by
                          rcases fb1 with z | z <;> (subst z; exact EN_fr rg33 (by decide) (by decide) (by decide))
                        have E3 : EN s0 g33 := EN_trans E2 F3
                        have C3 : g33 (b1 + 13) 0 = s0 (b1 + 13) 0 := by
                          rw [← C2]
                          rcases fb1 with z | z <;> (subst z; exact rg33.s (by decide))
                        have R3 := law_sum (qg33 : RSp 0 g23 x30 g33)
                        rw [E2.1, congrFun A2 7, M1] at R3
                        rcases R3 with ⟨-, H3, W3⟩ | ⟨z, -⟩
                        rotate_left
                        · exact absurd z (by omega)
                        have F4 : EN g33 g44 := by
                          rcases fb1 with z | z <;> (subst z; exact EN_fr rg44 (by decide) (by decide) (by decide))
                        have E4 : EN s0 g44 := EN_trans E3 F4
                        have C4 : g44 (b1 + 13) 0 = s0 (b1 + 13) 0 := by
                          rw [← C3]
                          rcases fb1 with z | z <;> (subst z; exact rg44.s (by decide))
                        have R4 : PO (nOw (toks g33) 20 (g33 2 7).toNat) x41 g44 := qg44
                        rw [E3.1] at R4
                        obtain ⟨H4, W4⟩ := PO_1 R4 (by omega)
                        have F5 : EN g44 g53 := by
                          rcases fb1 with z | z <;> (subst z; exact EN_fr rg53 (by decide) (by decide) (by decide))
                        have E5 : EN s0 g53 := EN_trans E4 F5
                        have C5 : g53 (b1 + 13) 0 = s0 (b1 + 13) 0 := by
                          rw [← C4]
                          rcases fb1 with z | z <;> (subst z; exact rg53.s (by decide))
                        have A5 : g53 2 = g44 2 := by
                          rcases fb1 with z | z <;> (subst z; exact rg53.a (by decide))
                        have W5 : TW g53 := TW_en W4 F5 (congrFun A5 7)
                        have F6 : EN g53 g63 := by
                          rcases fb1 with z | z <;> (subst z; exact EN_fr rg63 (by decide) (by decide) (by decide))
                        have E6 : EN s0 g63 := EN_trans E5 F6
                        have C6 : g63 (b1 + 13) 0 = s0 (b1 + 13) 0 := by
                          rw [← C5]
                          rcases fb1 with z | z <;> (subst z; exact rg63.s (by decide))
                        have R6 := law_test (qg63 : RTp 0 g53 x60 g63)
                        rw [E5.1, congrFun A5 7] at R6
                        rcases R6 with ⟨-, H6, W6⟩ | ⟨z, -⟩
                        rotate_left
                        · exact absurd z (by omega)
                        have F7 : EN g63 g72 := by
                          rcases fb1 with z | z <;> (subst z; exact EN_fr rg72 (by decide) (by decide) (by decide))
                        have E7 : EN s0 g72 := EN_trans E6 F7
                        have A7 : g72 2 = g63 2 := by
                          rcases fb1 with z | z <;> (subst z; exact rg72.a (by decide))
                        have W7 : TW g72 := TW_en W6 F7 (congrFun A7 7)
                        have Q7 : g63 (b1 + 13) 0 < 8 → g72 (b1 + 13) 0 = g63 (b1 + 13) 0 + 1 := qg72
                        exact ⟨b1, eb1, Or.inr ⟨by omega, ⟨_, spLaw_2 H3 H4 H6, Or.inl ⟨rfl, by rw [congrFun A7 7], W7⟩⟩, fun _ => by
                          have w := Q7 (by omega)
                          omega⟩⟩
                    · skip
                      have T1 : g15 = stp s0 := qg15
                      obtain ⟨W1, D1, M1, E1⟩ := stp_ok ht (by rw [hk]; decide) (by rw [hk]; decide) T1
                      have C1 : g15 (b1 + 13) 0 = s0 (b1 + 13) 0 := congrFun (stp_na T1 (by omega)) 0
                      have F2 : EN g15 g23 := by
                        rcases fb1 with z | z <;> (subst z; exact EN_fr rg23 (by decide) (by decide) (by decide))
                      have E2 : EN s0 g23 := EN_trans E1 F2
                      have C2 : g23 (b1 + 13) 0 = s0 (b1 + 13) 0 := by
                        rw [← C1]
                        rcases fb1 with z | z <;> (subst z; exact rg23.s (by decide))
                      have A2 : g23 2 = g15 2 := by
                        rcases fb1 with z | z <;> (subst z; exact rg23.a (by decide))
                      have W2 : TW g23 := TW_en W1 F2 (congrFun A2 7)
                      have F3 : EN g23 g33 := by
                        rcases fb1 with z | z <;> (subst z; exact EN_fr rg33 (by decide) (by decide) (by decide))
                      have E3 : EN s0 g33 := EN_trans E2 F3
                      have C3 : g33 (b1 + 13) 0 = s0 (b1 + 13) 0 := by
                        rw [← C2]
                        rcases fb1 with z | z <;> (subst z; exact rg33.s (by decide))
                      have R3 := law_sum (qg33 : RSp 0 g23 x30 g33)
                      rw [E2.1, congrFun A2 7, M1] at R3
                      rcases R3 with ⟨-, H3, W3⟩ | ⟨z, -⟩
                      rotate_left
                      · exact absurd z (by omega)
                      have F4 : EN g33 g44 := by
                        rcases fb1 with z | z <;> (subst z; exact EN_fr rg44 (by decide) (by decide) (by decide))
                      have E4 : EN s0 g44 := EN_trans E3 F4
                      have C4 : g44 (b1 + 13) 0 = s0 (b1 + 13) 0 := by
                        rw [← C3]
                        rcases fb1 with z | z <;> (subst z; exact rg44.s (by decide))
                      have R4 : PO (nOw (toks g33) 20 (g33 2 7).toNat) x41 g44 := qg44
                      rw [E3.1] at R4
                      obtain ⟨H4, W4⟩ := PO_1 R4 (by omega)
                      have F5 : EN g44 g53 := by
                        rcases fb1 with z | z <;> (subst z; exact EN_fr rg53 (by decide) (by decide) (by decide))
                      have E5 : EN s0 g53 := EN_trans E4 F5
                      have C5 : g53 (b1 + 13) 0 = s0 (b1 + 13) 0 := by
                        rw [← C4]
                        rcases fb1 with z | z <;> (subst z; exact rg53.s (by decide))
                      have A5 : g53 2 = g44 2 := by
                        rcases fb1 with z | z <;> (subst z; exact rg53.a (by decide))
                      have W5 : TW g53 := TW_en W4 F5 (congrFun A5 7)
                      have F6 : EN g53 g63 := by
                        rcases fb1 with z | z <;> (subst z; exact EN_fr rg63 (by decide) (by decide) (by decide))
                      have E6 : EN s0 g63 := EN_trans E5 F6
                      have C6 : g63 (b1 + 13) 0 = s0 (b1 + 13) 0 := by
                        rw [← C5]
                        rcases fb1 with z | z <;> (subst z; exact rg63.s (by decide))
                      have R6 := law_test (qg63 : RTp 0 g53 x60 g63)
                      rw [E5.1, congrFun A5 7] at R6
                      rcases R6 with ⟨z, -⟩ | ⟨-, X6⟩
                      · exact absurd z (by omega)
                      exact ⟨b1, eb1, Or.inr ⟨by omega, ⟨_, spLaw_2 H3 H4 X6, Or.inr ⟨rfl, rfl⟩⟩, fun z => absurd z (by decide)⟩⟩
              · skip
                have T1 : g15 = stp s0 := qg15
                obtain ⟨W1, D1, M1, E1⟩ := stp_ok ht (by rw [hk]; decide) (by rw [hk]; decide) T1
                have C1 : g15 (b1 + 13) 0 = s0 (b1 + 13) 0 := congrFun (stp_na T1 (by omega)) 0
                have F2 : EN g15 g23 := by
                  rcases fb1 with z | z <;> (subst z; exact EN_fr rg23 (by decide) (by decide) (by decide))
                have E2 : EN s0 g23 := EN_trans E1 F2
                have C2 : g23 (b1 + 13) 0 = s0 (b1 + 13) 0 := by
                  rw [← C1]
                  rcases fb1 with z | z <;> (subst z; exact rg23.s (by decide))
                have A2 : g23 2 = g15 2 := by
                  rcases fb1 with z | z <;> (subst z; exact rg23.a (by decide))
                have W2 : TW g23 := TW_en W1 F2 (congrFun A2 7)
                have F3 : EN g23 g33 := by
                  rcases fb1 with z | z <;> (subst z; exact EN_fr rg33 (by decide) (by decide) (by decide))
                have E3 : EN s0 g33 := EN_trans E2 F3
                have C3 : g33 (b1 + 13) 0 = s0 (b1 + 13) 0 := by
                  rw [← C2]
                  rcases fb1 with z | z <;> (subst z; exact rg33.s (by decide))
                have R3 := law_sum (qg33 : RSp 0 g23 x30 g33)
                rw [E2.1, congrFun A2 7, M1] at R3
                rcases R3 with ⟨-, H3, W3⟩ | ⟨z, -⟩
                rotate_left
                · exact absurd z (by omega)
                have F4 : EN g33 g44 := by
                  rcases fb1 with z | z <;> (subst z; exact EN_fr rg44 (by decide) (by decide) (by decide))
                have E4 : EN s0 g44 := EN_trans E3 F4
                have C4 : g44 (b1 + 13) 0 = s0 (b1 + 13) 0 := by
                  rw [← C3]
                  rcases fb1 with z | z <;> (subst z; exact rg44.s (by decide))
                have R4 : PO (nOw (toks g33) 20 (g33 2 7).toNat) x41 g44 := qg44
                rw [E3.1] at R4
                have X4 := PO_0 R4 (by omega)
                exact ⟨b1, eb1, Or.inr ⟨by omega, ⟨_, spLaw_1 H3 X4, Or.inr ⟨rfl, rfl⟩⟩, fun z => absurd z (by decide)⟩⟩
          · skip
            have T1 : g15 = stp s0 := qg15
            obtain ⟨W1, D1, M1, E1⟩ := stp_ok ht (by rw [hk]; decide) (by rw [hk]; decide) T1
            have C1 : g15 (b1 + 13) 0 = s0 (b1 + 13) 0 := congrFun (stp_na T1 (by omega)) 0
            have F2 : EN g15 g23 := by
              rcases fb1 with z | z <;> (subst z; exact EN_fr rg23 (by decide) (by decide) (by decide))
            have E2 : EN s0 g23 := EN_trans E1 F2
            have C2 : g23 (b1 + 13) 0 = s0 (b1 + 13) 0 := by
              rw [← C1]
              rcases fb1 with z | z <;> (subst z; exact rg23.s (by decide))
            have A2 : g23 2 = g15 2 := by
              rcases fb1 with z | z <;> (subst z; exact rg23.a (by decide))
            have W2 : TW g23 := TW_en W1 F2 (congrFun A2 7)
            have F3 : EN g23 g33 := by
              rcases fb1 with z | z <;> (subst z; exact EN_fr rg33 (by decide) (by decide) (by decide))
            have E3 : EN s0 g33 := EN_trans E2 F3
            have C3 : g33 (b1 + 13) 0 = s0 (b1 + 13) 0 := by
              rw [← C2]
              rcases fb1 with z | z <;> (subst z; exact rg33.s (by decide))
            have R3 := law_sum (qg33 : RSp 0 g23 x30 g33)
            rw [E2.1, congrFun A2 7, M1] at R3
            rcases R3 with ⟨z, -⟩ | ⟨-, X3⟩
            · exact absurd z (by omega)
            exact ⟨b1, eb1, Or.inr ⟨by omega, ⟨_, spLaw_0 X3, Or.inr ⟨rfl, rfl⟩⟩, fun z => absurd z (by decide)⟩⟩
  · skip
    refine ⟨fun _ g' => (g' 2 0, g' 2 1) = ((5 : Int), if (5 : Int) = 1 ∧ s0 4 (s0 2 7).toNat = 1 then s0 5 (s0 2 7).toNat else s0 6 (s0 2 7).toNat), ?_, ?_⟩
    · skip
      exact v_1286
    · skip
      intro x79 hx791 hx792 g82 rg82 qg82
      exact ⟨b1, eb1, Or.inl ⟨by omega, by omega, els_q (by decide) qg82⟩⟩
set_option maxHeartbeats 4000000 in
theorem v_1281 {s0 : zF} {a1 : Int} (hw : OWS s0) (h0 : 0 ≤ a1) (h1 : a1 ≤ 1600) : b_1281 s0 a1 (fun v g => RDQ (s0 1) a1.toNat (s0 2 8).toNat v g) := by
  refine ⟨fun n g v30_3 => n = (100 - v30_3).toNat ∧ ∃ (t : zK) (P : Nat → Nat) (e : Nat) (b : Nat), (b = 7 ∨ b = 28) ∧ (b : Int) = s0 2 8 ∧ Toks (s0 1) a1.toNat t.1 t.2.1 t.2.2 P e ∧ RDI t b v30_3 g, ?_, ?_⟩
  · skip
    intro b348 eb348 fb348
    refine ⟨fun g' => EMP b348 s0 g', ?_, ?_⟩
    · skip
      exact v_257 fb348
    · skip
      intro g357 rg357 qg357
      intro g363 eg363
      intro g368 eg368
      intro g373 eg373
      refine ⟨fun g' => SCAN (g373 1) (a1 : Int).toNat g', ?_, ?_⟩
      · skip
        exact v_1282 h0 h1
      · skip
        intro g379 rg379 qg379
        obtain ⟨m1, m2, m3⟩ : EMP b348 s0 g357 := qg357
        have o1 : g373 1 = s0 1 := by
          rw [eg373, zup_na (by decide), eg368, zup_na (by decide), eg363, zup_na (by decide)]
          rcases fb348 with z | z <;> (subst z; exact rg357.a (by decide))
        have o3 : g379 3 = s0 3 := by
          rw [rg379.a (by decide), eg373, zup_na (by decide), eg368, zup_na (by decide), eg363, zup_na (by decide)]
          rcases fb348 with z | z <;> (subst z; exact rg357.a (by decide))
        have o8 : g379 2 8 = s0 2 8 := by
          rw [rg379.s (by decide), eg373, zup_ne (Or.inr (by decide)), eg368, zup_ne (Or.inr (by decide)), eg363, zup_ne (Or.inr (by decide))]
          rcases fb348 with z | z <;> (subst z; exact rg357.s (by decide))
        have o7 : g379 2 7 = 0 := by
          rw [rg379.s (by decide), eg373, zup_eq]
        have ob : g379 b348 = g357 b348 := by
          rw [← show g373 b348 = g357 b348 by rw [eg373, zup_na (by omega), eg368, zup_na (by omega), eg363, zup_na (by omega)]]
          rcases fb348 with z | z <;> (subst z; exact rg379.a (by decide))
        have oc : g379 (b348 + 13) = g357 (b348 + 13) := by
          rw [← show g373 (b348 + 13) = g357 (b348 + 13) by rw [eg373, zup_na (by omega), eg368, zup_na (by omega), eg363, zup_na (by omega)]]
          rcases fb348 with z | z <;> (subst z; exact rg379.a (by decide))
        have sc : SCAN (g373 1) a1.toNat g379 := qg379
        rw [o1] at sc
        have tw : TW g379 := TW_scan sc (by omega) o7
        obtain ⟨e, P, c1, c2⟩ := sc
        refine ⟨_, rfl, toks g379, P, e, b348, fb348, eb348, c2, rd_start tw (fun k hk => by rw [o3]; exact hw k hk) (by omega) o7 ?_ ?_ ?_⟩
        · rw [ob]
          exact m1
        · rw [ob]
          exact m2
        · rw [oc]
          exact m3
  · intro n g v30_3 rg qv30_30 qv30_31 hI
    obtain ⟨hn, t, P, e, b, fb, eb, tk, hr⟩ := hI
    have hr0 := hr
    obtain ⟨ha, how, htw, hb8, -, -, -⟩ := hr0
    intro x1 ex1 fx1 gx1
    intro x8 ex8 fx8 gx8
    refine ⟨fun h9 => ?_, fun h9 => ?_⟩
    · skip
      refine ⟨fun h10 => ?_, fun h10 => ?_⟩
      · skip
        refine ⟨fun v g' => g' = g ∧ v = tokI (toks g) (g 2 7).toNat, ?_, ?_⟩
        · skip
          exact v_1287 how
        · skip
          intro x16 hx161 hx162 g19 rg19 qg19
          refine ⟨fun h21 => ?_, fun h21 => ?_⟩
          · skip
            refine ⟨fun v g' => ∃ b : Nat, (b : Int) = g19 2 8 ∧ (12 ≤ g19 b 1 ∧ v = 0 ∧ (g' 2 0, g' 2 1) = (5, g19 6 (g19 2 7).toNat) ∨ g19 b 1 < 12 ∧ PO (spBoy (toks g19) (tknB g19 b) (g19 2 7).toNat) v g' ∧ (v = 1 → NEWN g19 g' b 1 1 (g19 2 7).toNat)), ?_, ?_⟩
            · skip
              obtain ⟨Q1, N1⟩ : g19 = g ∧ x16 = tokI (toks g) (g 2 7).toNat := qg19
              rw [Q1]
              exact v_1288 how htw (tokI_2 (t := toks g) (by omega))
            · skip
              intro x27 hx271 hx272 g30 rg30 qg30
              refine ⟨fun h32 => ?_, fun h32 => ?_⟩
              · skip
                refine ⟨fun v g' => g' = g30 ∧ (v = 1 ∧ isSg (toks g30) 59 (g30 2 7).toNat ∨ v = 0 ∧ ¬ isSg (toks g30) 59 (g30 2 7).toNat), ?_, ?_⟩
                · skip
                  exact v_1299
                · skip
                  intro x38 hx381 hx382 g41 rg41 qg41
                  refine ⟨fun h43 => ?_, fun h43 => ?_⟩
                  · skip
                    refine ⟨fun g' => g' = stp g41, ?_, ?_⟩
                    · skip
                      exact v_1289
                    · skip
                      intro g49 rg49 qg49
                      intro x51 ex51
                      have k0 : g 4 (g 2 7).toNat = x8 := by rw [ex8, ex1]
                      have kb : (s0 2 8).toNat = b := by omega
                      obtain ⟨Q1, N1⟩ : g19 = g ∧ x16 = tokI (toks g) (g 2 7).toNat := qg19
                      rw [ha] at N1
                      have q2 := qg30
                      have r2 := rg30
                      rw [Q1] at q2 r2
                      have h0 : g 4 (g 2 7).toNat ≠ 0 := by omega
                      have h90 : v30_3 ≠ 90 := by omega
                      have E2 : EN g g30 := EN_fr r2 (by decide) (by decide) (by decide)
                      have e82 : g30 2 8 = g 2 8 := r2.s (by decide)
                      have n2 : g30 b 2 = g b 2 := by
                        rcases fb with z | z <;> (subst z; exact r2.s (by decide))
                      have n7 : g30 (b + 7) = g (b + 7) := by
                        rcases fb with z | z <;> (subst z; exact r2.a (by decide))
                      have n13 : g30 (b + 13) 0 = g (b + 13) 0 := by
                        rcases fb with z | z <;> (subst z; exact r2.s (by decide))
                      have S2 : STO t b g x27 g30 := STO_boy (by omega) ha (by omega) q2 n2 n7 n13
                      obtain ⟨Q3, N3⟩ : g41 = g30 ∧ (x38 = 1 ∧ isSg (toks g30) 59 (g30 2 7).toNat ∨ x38 = 0 ∧ ¬ isSg (toks g30) 59 (g30 2 7).toNat) := qg41
                      have q4 := qg49
                      rw [Q3] at q4
                      refine ⟨_, ?_, rfl, t, P, e, b, fb, eb, tk, rd_next hr h90 h0 S2 (by omega) (by omega) (by omega) E2 e82 N3 (by omega) (by omega) q4 (by omega)⟩
                      omega
                  · skip
                    refine ⟨fun _ g' => (g' 2 0, g' 2 1) = ((1 : Int), if (1 : Int) = 1 ∧ g41 4 (g41 2 7).toNat = 1 then g41 5 (g41 2 7).toNat else g41 6 (g41 2 7).toNat), ?_, ?_⟩
                    · skip
                      exact v_1286
                    · skip
                      intro x58 hx581 hx582 g61 rg61 qg61
                      have k0 : g 4 (g 2 7).toNat = x8 := by rw [ex8, ex1]
                      have kb : (s0 2 8).toNat = b := by omega
                      obtain ⟨Q1, N1⟩ : g19 = g ∧ x16 = tokI (toks g) (g 2 7).toNat := qg19
                      rw [ha] at N1
                      have q2 := qg30
                      have r2 := rg30
                      rw [Q1] at q2 r2
                      have h0 : g 4 (g 2 7).toNat ≠ 0 := by omega
                      have h90 : v30_3 ≠ 90 := by omega
                      have E2 : EN g g30 := EN_fr r2 (by decide) (by decide) (by decide)
                      have e82 : g30 2 8 = g 2 8 := r2.s (by decide)
                      have n2 : g30 b 2 = g b 2 := by
                        rcases fb with z | z <;> (subst z; exact r2.s (by decide))
                      have n7 : g30 (b + 7) = g (b + 7) := by
                        rcases fb with z | z <;> (subst z; exact r2.a (by decide))
                      have n13 : g30 (b + 13) 0 = g (b + 13) 0 := by
                        rcases fb with z | z <;> (subst z; exact r2.s (by decide))
                      have S2 : STO t b g x27 g30 := STO_boy (by omega) ha (by omega) q2 n2 n7 n13
                      obtain ⟨Q3, N3⟩ : g41 = g30 ∧ (x38 = 1 ∧ isSg (toks g30) 59 (g30 2 7).toNat ∨ x38 = 0 ∧ ¬ isSg (toks g30) 59 (g30 2 7).toNat) := qg41
                      have q4 := qg61
                      rw [Q3] at q4
                      show RDQ (s0 1) a1.toNat (s0 2 8).toNat x58 g61
                      rw [kb]
                      have e0 : x58 = 0 := by omega
                      rw [e0]
                      exact rd_nosc tk hr h90 h0 S2 (by omega) E2 N3 (by omega) q4
              · skip
                have k0 : g 4 (g 2 7).toNat = x8 := by rw [ex8, ex1]
                have kb : (s0 2 8).toNat = b := by omega
                obtain ⟨Q1, N1⟩ : g19 = g ∧ x16 = tokI (toks g) (g 2 7).toNat := qg19
                rw [ha] at N1
                have q2 := qg30
                have r2 := rg30
                rw [Q1] at q2 r2
                have h0 : g 4 (g 2 7).toNat ≠ 0 := by omega
                have h90 : v30_3 ≠ 90 := by omega
                have E2 : EN g g30 := EN_fr r2 (by decide) (by decide) (by decide)
                have e82 : g30 2 8 = g 2 8 := r2.s (by decide)
                have n2 : g30 b 2 = g b 2 := by
                  rcases fb with z | z <;> (subst z; exact r2.s (by decide))
                have n7 : g30 (b + 7) = g (b + 7) := by
                  rcases fb with z | z <;> (subst z; exact r2.a (by decide))
                have n13 : g30 (b + 13) 0 = g (b + 13) 0 := by
                  rcases fb with z | z <;> (subst z; exact r2.s (by decide))
                have S2 : STO t b g x27 g30 := STO_boy (by omega) ha (by omega) q2 n2 n7 n13
                show RDQ (s0 1) a1.toNat (s0 2 8).toNat 0 g30
                rw [kb]
                exact rd_fail tk hr h90 h0 S2 (by omega)
          refine ⟨fun h63 => ?_, fun h63 => ?_⟩
          · skip
            refine ⟨fun _ g' => (g' 2 0, g' 2 1) = ((1 : Int), if (1 : Int) = 1 ∧ g19 4 (g19 2 7).toNat = 1 then g19 5 (g19 2 7).toNat else g19 6 (g19 2 7).toNat), ?_, ?_⟩
            · skip
              exact v_1286
            · skip
              intro x69 hx691 hx692 g72 rg72 qg72
              have k0 : g 4 (g 2 7).toNat = x8 := by rw [ex8, ex1]
              have kb : (s0 2 8).toNat = b := by omega
              obtain ⟨Q1, N1⟩ : g19 = g ∧ x16 = tokI (toks g) (g 2 7).toNat := qg19
              rw [ha] at N1
              have q2 := qg72
              rw [Q1] at q2
              show RDQ (s0 1) a1.toNat (s0 2 8).toNat 0 g72
              rw [kb]
              exact rd_none tk hr (by omega) (by omega) (by omega) (by omega) (by omega) (by omega) (by omega) q2
          refine ⟨fun h74 => ?_, fun h74 => ?_⟩
          · skip
            refine ⟨fun _ g' => (g' 2 0, g' 2 1) = ((1 : Int), if (1 : Int) = 1 ∧ g19 4 (g19 2 7).toNat = 1 then g19 5 (g19 2 7).toNat else g19 6 (g19 2 7).toNat), ?_, ?_⟩
            · skip
              exact v_1286
            · skip
              intro x80 hx801 hx802 g83 rg83 qg83
              have k0 : g 4 (g 2 7).toNat = x8 := by rw [ex8, ex1]
              have kb : (s0 2 8).toNat = b := by omega
              obtain ⟨Q1, N1⟩ : g19 = g ∧ x16 = tokI (toks g) (g 2 7).toNat := qg19
              rw [ha] at N1
              have q2 := qg83
              rw [Q1] at q2
              show RDQ (s0 1) a1.toNat (s0 2 8).toNat 0 g83
              rw [kb]
              exact rd_none tk hr (by omega) (by omega) (by omega) (by omega) (by omega) (by omega) (by omega) q2
          refine ⟨fun h85 => ?_, fun h85 => ?_⟩
          · skip
            refine ⟨fun _ g' => (g' 2 0, g' 2 1) = ((1 : Int), if (1 : Int) = 1 ∧ g19 4 (g19 2 7).toNat = 1 then g19 5 (g19 2 7).toNat else g19 6 (g19 2 7).toNat), ?_, ?_⟩
            · skip
              exact v_1286
            · skip
              intro x91 hx911 hx912 g94 rg94 qg94
              have k0 : g 4 (g 2 7).toNat = x8 := by rw [ex8, ex1]
              have kb : (s0 2 8).toNat = b := by omega
              obtain ⟨Q1, N1⟩ : g19 = g ∧ x16 = tokI (toks g) (g 2 7).toNat := qg19
              rw [ha] at N1
              have q2 := qg94
              rw [Q1] at q2
              show RDQ (s0 1) a1.toNat (s0 2 8).toNat 0 g94
              rw [kb]
              exact rd_none tk hr (by omega) (by omega) (by omega) (by omega) (by omega) (by omega) (by omega) q2
          refine ⟨fun h96 => ?_, fun h96 => ?_⟩
          · skip
            refine ⟨fun _ g' => (g' 2 0, g' 2 1) = ((1 : Int), if (1 : Int) = 1 ∧ g19 4 (g19 2 7).toNat = 1 then g19 5 (g19 2 7).toNat else g19 6 (g19 2 7).toNat), ?_, ?_⟩
            · skip
              exact v_1286
            · skip
              intro x102 hx1021 hx1022 g105 rg105 qg105
              have k0 : g 4 (g 2 7).toNat = x8 := by rw [ex8, ex1]
              have kb : (s0 2 8).toNat = b := by omega
              obtain ⟨Q1, N1⟩ : g19 = g ∧ x16 = tokI (toks g) (g 2 7).toNat := qg19
              rw [ha] at N1
              have q2 := qg105
              rw [Q1] at q2
              show RDQ (s0 1) a1.toNat (s0 2 8).toNat 0 g105
              rw [kb]
              exact rd_none tk hr (by omega) (by omega) (by omega) (by omega) (by omega) (by omega) (by omega) q2
          refine ⟨fun h107 => ?_, fun h107 => ?_⟩
          · skip
            refine ⟨fun v g' => PO (spSlack (toks g19) (g19 2 7).toNat) v g', ?_, ?_⟩
            · skip
              obtain ⟨Q1, N1⟩ : g19 = g ∧ x16 = tokI (toks g) (g 2 7).toNat := qg19
              rw [Q1]
              exact v_1294 how htw (tokI_2 (t := toks g) (by omega))
            · skip
              intro x113 hx1131 hx1132 g116 rg116 qg116
              refine ⟨fun h118 => ?_, fun h118 => ?_⟩
              · skip
                refine ⟨fun v g' => g' = g116 ∧ (v = 1 ∧ isSg (toks g116) 59 (g116 2 7).toNat ∨ v = 0 ∧ ¬ isSg (toks g116) 59 (g116 2 7).toNat), ?_, ?_⟩
                · skip
                  exact v_1299
                · skip
                  intro x124 hx1241 hx1242 g127 rg127 qg127
                  refine ⟨fun h129 => ?_, fun h129 => ?_⟩
                  · skip
                    refine ⟨fun g' => g' = stp g127, ?_, ?_⟩
                    · skip
                      exact v_1289
                    · skip
                      intro g135 rg135 qg135
                      intro x137 ex137
                      have k0 : g 4 (g 2 7).toNat = x8 := by rw [ex8, ex1]
                      have kb : (s0 2 8).toNat = b := by omega
                      obtain ⟨Q1, N1⟩ : g19 = g ∧ x16 = tokI (toks g) (g 2 7).toNat := qg19
                      rw [ha] at N1
                      have q2 := qg116
                      have r2 := rg116
                      rw [Q1] at q2 r2
                      have h0 : g 4 (g 2 7).toNat ≠ 0 := by omega
                      have h90 : v30_3 ≠ 90 := by omega
                      have E2 : EN g g116 := EN_fr r2 (by decide) (by decide) (by decide)
                      have e82 : g116 2 8 = g 2 8 := r2.s (by decide)
                      have nb : g116 b = g b := by
                        rcases fb with z | z <;> (subst z; exact r2.a (by decide))
                      have n1 : g116 (b + 1) = g (b + 1) := by
                        rcases fb with z | z <;> (subst z; exact r2.a (by decide))
                      have n7 : g116 (b + 7) = g (b + 7) := by
                        rcases fb with z | z <;> (subst z; exact r2.a (by decide))
                      have n13 : g116 (b + 13) 0 = g (b + 13) 0 := by
                        rcases fb with z | z <;> (subst z; exact r2.s (by decide))
                      have S2 : STO t b g x113 g116 := STO_slack ha (by omega) q2 nb n1 n7 n13
                      obtain ⟨Q3, N3⟩ : g127 = g116 ∧ (x124 = 1 ∧ isSg (toks g116) 59 (g116 2 7).toNat ∨ x124 = 0 ∧ ¬ isSg (toks g116) 59 (g116 2 7).toNat) := qg127
                      have q4 := qg135
                      rw [Q3] at q4
                      refine ⟨_, ?_, rfl, t, P, e, b, fb, eb, tk, rd_next hr h90 h0 S2 (by omega) (by omega) (by omega) E2 e82 N3 (by omega) (by omega) q4 (by omega)⟩
                      omega
                  · skip
                    refine ⟨fun _ g' => (g' 2 0, g' 2 1) = ((1 : Int), if (1 : Int) = 1 ∧ g127 4 (g127 2 7).toNat = 1 then g127 5 (g127 2 7).toNat else g127 6 (g127 2 7).toNat), ?_, ?_⟩
                    · skip
                      exact v_1286
                    · skip
                      intro x144 hx1441 hx1442 g147 rg147 qg147
                      have k0 : g 4 (g 2 7).toNat = x8 := by rw [ex8, ex1]
                      have kb : (s0 2 8).toNat = b := by omega
                      obtain ⟨Q1, N1⟩ : g19 = g ∧ x16 = tokI (toks g) (g 2 7).toNat := qg19
                      rw [ha] at N1
                      have q2 := qg116
                      have r2 := rg116
                      rw [Q1] at q2 r2
                      have h0 : g 4 (g 2 7).toNat ≠ 0 := by omega
                      have h90 : v30_3 ≠ 90 := by omega
                      have E2 : EN g g116 := EN_fr r2 (by decide) (by decide) (by decide)
                      have e82 : g116 2 8 = g 2 8 := r2.s (by decide)
                      have nb : g116 b = g b := by
                        rcases fb with z | z <;> (subst z; exact r2.a (by decide))
                      have n1 : g116 (b + 1) = g (b + 1) := by
                        rcases fb with z | z <;> (subst z; exact r2.a (by decide))
                      have n7 : g116 (b + 7) = g (b + 7) := by
                        rcases fb with z | z <;> (subst z; exact r2.a (by decide))
                      have n13 : g116 (b + 13) 0 = g (b + 13) 0 := by
                        rcases fb with z | z <;> (subst z; exact r2.s (by decide))
                      have S2 : STO t b g x113 g116 := STO_slack ha (by omega) q2 nb n1 n7 n13
                      obtain ⟨Q3, N3⟩ : g127 = g116 ∧ (x124 = 1 ∧ isSg (toks g116) 59 (g116 2 7).toNat ∨ x124 = 0 ∧ ¬ isSg (toks g116) 59 (g116 2 7).toNat) := qg127
                      have q4 := qg147
                      rw [Q3] at q4
                      show RDQ (s0 1) a1.toNat (s0 2 8).toNat x144 g147
                      rw [kb]
                      have e0 : x144 = 0 := by omega
                      rw [e0]
                      exact rd_nosc tk hr h90 h0 S2 (by omega) E2 N3 (by omega) q4
              · skip
                have k0 : g 4 (g 2 7).toNat = x8 := by rw [ex8, ex1]
                have kb : (s0 2 8).toNat = b := by omega
                obtain ⟨Q1, N1⟩ : g19 = g ∧ x16 = tokI (toks g) (g 2 7).toNat := qg19
                rw [ha] at N1
                have q2 := qg116
                have r2 := rg116
                rw [Q1] at q2 r2
                have h0 : g 4 (g 2 7).toNat ≠ 0 := by omega
                have h90 : v30_3 ≠ 90 := by omega
                have E2 : EN g g116 := EN_fr r2 (by decide) (by decide) (by decide)
                have e82 : g116 2 8 = g 2 8 := r2.s (by decide)
                have nb : g116 b = g b := by
                  rcases fb with z | z <;> (subst z; exact r2.a (by decide))
                have n1 : g116 (b + 1) = g (b + 1) := by
                  rcases fb with z | z <;> (subst z; exact r2.a (by decide))
                have n7 : g116 (b + 7) = g (b + 7) := by
                  rcases fb with z | z <;> (subst z; exact r2.a (by decide))
                have n13 : g116 (b + 13) 0 = g (b + 13) 0 := by
                  rcases fb with z | z <;> (subst z; exact r2.s (by decide))
                have S2 : STO t b g x113 g116 := STO_slack ha (by omega) q2 nb n1 n7 n13
                show RDQ (s0 1) a1.toNat (s0 2 8).toNat 0 g116
                rw [kb]
                exact rd_fail tk hr h90 h0 S2 (by omega)
          refine ⟨fun h149 => ?_, fun h149 => ?_⟩
          · skip
            refine ⟨fun _ g' => (g' 2 0, g' 2 1) = ((1 : Int), if (1 : Int) = 1 ∧ g19 4 (g19 2 7).toNat = 1 then g19 5 (g19 2 7).toNat else g19 6 (g19 2 7).toNat), ?_, ?_⟩
            · skip
              exact v_1286
            · skip
              intro x155 hx1551 hx1552 g158 rg158 qg158
              have k0 : g 4 (g 2 7).toNat = x8 := by rw [ex8, ex1]
              have kb : (s0 2 8).toNat = b := by omega
              obtain ⟨Q1, N1⟩ : g19 = g ∧ x16 = tokI (toks g) (g 2 7).toNat := qg19
              rw [ha] at N1
              have q2 := qg158
              rw [Q1] at q2
              show RDQ (s0 1) a1.toNat (s0 2 8).toNat 0 g158
              rw [kb]
              exact rd_none tk hr (by omega) (by omega) (by omega) (by omega) (by omega) (by omega) (by omega) q2
          refine ⟨fun h160 => ?_, fun h160 => ?_⟩
          · skip
            refine ⟨fun v g' => ∃ b : Nat, (b : Int) = g19 2 8 ∧ (6 ≤ g19 b 2 ∧ v = 0 ∧ (g' 2 0, g' 2 1) = (5, g19 6 (g19 2 7).toNat) ∨ g19 b 2 < 6 ∧ PO (spDream (toks g19) (tknB g19 b) (g19 2 7).toNat) v g' ∧ (v = 1 → NEWN g19 g' b 2 7 (g19 2 7).toNat)), ?_, ?_⟩
            · skip
              obtain ⟨Q1, N1⟩ : g19 = g ∧ x16 = tokI (toks g) (g 2 7).toNat := qg19
              rw [Q1]
              exact v_1295 how htw (tokI_2 (t := toks g) (by omega))
            · skip
              intro x166 hx1661 hx1662 g169 rg169 qg169
              refine ⟨fun h171 => ?_, fun h171 => ?_⟩
              · skip
                refine ⟨fun v g' => g' = g169 ∧ (v = 1 ∧ isSg (toks g169) 59 (g169 2 7).toNat ∨ v = 0 ∧ ¬ isSg (toks g169) 59 (g169 2 7).toNat), ?_, ?_⟩
                · skip
                  exact v_1299
                · skip
                  intro x177 hx1771 hx1772 g180 rg180 qg180
                  refine ⟨fun h182 => ?_, fun h182 => ?_⟩
                  · skip
                    refine ⟨fun g' => g' = stp g180, ?_, ?_⟩
                    · skip
                      exact v_1289
                    · skip
                      intro g188 rg188 qg188
                      intro x190 ex190
                      have k0 : g 4 (g 2 7).toNat = x8 := by rw [ex8, ex1]
                      have kb : (s0 2 8).toNat = b := by omega
                      obtain ⟨Q1, N1⟩ : g19 = g ∧ x16 = tokI (toks g) (g 2 7).toNat := qg19
                      rw [ha] at N1
                      have q2 := qg169
                      have r2 := rg169
                      rw [Q1] at q2 r2
                      have h0 : g 4 (g 2 7).toNat ≠ 0 := by omega
                      have h90 : v30_3 ≠ 90 := by omega
                      have E2 : EN g g169 := EN_fr r2 (by decide) (by decide) (by decide)
                      have e82 : g169 2 8 = g 2 8 := r2.s (by decide)
                      have n2 : g169 b 1 = g b 1 := by
                        rcases fb with z | z <;> (subst z; exact r2.s (by decide))
                      have n1 : g169 (b + 1) = g (b + 1) := by
                        rcases fb with z | z <;> (subst z; exact r2.a (by decide))
                      have n13 : g169 (b + 13) 0 = g (b + 13) 0 := by
                        rcases fb with z | z <;> (subst z; exact r2.s (by decide))
                      have S2 : STO t b g x166 g169 := STO_dream (by omega) ha (by omega) q2 n2 n1 n13
                      obtain ⟨Q3, N3⟩ : g180 = g169 ∧ (x177 = 1 ∧ isSg (toks g169) 59 (g169 2 7).toNat ∨ x177 = 0 ∧ ¬ isSg (toks g169) 59 (g169 2 7).toNat) := qg180
                      have q4 := qg188
                      rw [Q3] at q4
                      refine ⟨_, ?_, rfl, t, P, e, b, fb, eb, tk, rd_next hr h90 h0 S2 (by omega) (by omega) (by omega) E2 e82 N3 (by omega) (by omega) q4 (by omega)⟩
                      omega
                  · skip
                    refine ⟨fun _ g' => (g' 2 0, g' 2 1) = ((1 : Int), if (1 : Int) = 1 ∧ g180 4 (g180 2 7).toNat = 1 then g180 5 (g180 2 7).toNat else g180 6 (g180 2 7).toNat), ?_, ?_⟩
                    · skip
                      exact v_1286
                    · skip
                      intro x197 hx1971 hx1972 g200 rg200 qg200
                      have k0 : g 4 (g 2 7).toNat = x8 := by rw [ex8, ex1]
                      have kb : (s0 2 8).toNat = b := by omega
                      obtain ⟨Q1, N1⟩ : g19 = g ∧ x16 = tokI (toks g) (g 2 7).toNat := qg19
                      rw [ha] at N1
                      have q2 := qg169
                      have r2 := rg169
                      rw [Q1] at q2 r2
                      have h0 : g 4 (g 2 7).toNat ≠ 0 := by omega
                      have h90 : v30_3 ≠ 90 := by omega
                      have E2 : EN g g169 := EN_fr r2 (by decide) (by decide) (by decide)
                      have e82 : g169 2 8 = g 2 8 := r2.s (by decide)
                      have n2 : g169 b 1 = g b 1 := by
                        rcases fb with z | z <;> (subst z; exact r2.s (by decide))
                      have n1 : g169 (b + 1) = g (b + 1) := by
                        rcases fb with z | z <;> (subst z; exact r2.a (by decide))
                      have n13 : g169 (b + 13) 0 = g (b + 13) 0 := by
                        rcases fb with z | z <;> (subst z; exact r2.s (by decide))
                      have S2 : STO t b g x166 g169 := STO_dream (by omega) ha (by omega) q2 n2 n1 n13
                      obtain ⟨Q3, N3⟩ : g180 = g169 ∧ (x177 = 1 ∧ isSg (toks g169) 59 (g169 2 7).toNat ∨ x177 = 0 ∧ ¬ isSg (toks g169) 59 (g169 2 7).toNat) := qg180
                      have q4 := qg200
                      rw [Q3] at q4
                      show RDQ (s0 1) a1.toNat (s0 2 8).toNat x197 g200
                      rw [kb]
                      have e0 : x197 = 0 := by omega
                      rw [e0]
                      exact rd_nosc tk hr h90 h0 S2 (by omega) E2 N3 (by omega) q4
              · skip
                have k0 : g 4 (g 2 7).toNat = x8 := by rw [ex8, ex1]
                have kb : (s0 2 8).toNat = b := by omega
                obtain ⟨Q1, N1⟩ : g19 = g ∧ x16 = tokI (toks g) (g 2 7).toNat := qg19
                rw [ha] at N1
                have q2 := qg169
                have r2 := rg169
                rw [Q1] at q2 r2
                have h0 : g 4 (g 2 7).toNat ≠ 0 := by omega
                have h90 : v30_3 ≠ 90 := by omega
                have E2 : EN g g169 := EN_fr r2 (by decide) (by decide) (by decide)
                have e82 : g169 2 8 = g 2 8 := r2.s (by decide)
                have n2 : g169 b 1 = g b 1 := by
                  rcases fb with z | z <;> (subst z; exact r2.s (by decide))
                have n1 : g169 (b + 1) = g (b + 1) := by
                  rcases fb with z | z <;> (subst z; exact r2.a (by decide))
                have n13 : g169 (b + 13) 0 = g (b + 13) 0 := by
                  rcases fb with z | z <;> (subst z; exact r2.s (by decide))
                have S2 : STO t b g x166 g169 := STO_dream (by omega) ha (by omega) q2 n2 n1 n13
                show RDQ (s0 1) a1.toNat (s0 2 8).toNat 0 g169
                rw [kb]
                exact rd_fail tk hr h90 h0 S2 (by omega)
          refine ⟨fun h202 => ?_, fun h202 => ?_⟩
          · skip
            refine ⟨fun _ g' => (g' 2 0, g' 2 1) = ((1 : Int), if (1 : Int) = 1 ∧ g19 4 (g19 2 7).toNat = 1 then g19 5 (g19 2 7).toNat else g19 6 (g19 2 7).toNat), ?_, ?_⟩
            · skip
              exact v_1286
            · skip
              intro x208 hx2081 hx2082 g211 rg211 qg211
              have k0 : g 4 (g 2 7).toNat = x8 := by rw [ex8, ex1]
              have kb : (s0 2 8).toNat = b := by omega
              obtain ⟨Q1, N1⟩ : g19 = g ∧ x16 = tokI (toks g) (g 2 7).toNat := qg19
              rw [ha] at N1
              have q2 := qg211
              rw [Q1] at q2
              show RDQ (s0 1) a1.toNat (s0 2 8).toNat 0 g211
              rw [kb]
              exact rd_none tk hr (by omega) (by omega) (by omega) (by omega) (by omega) (by omega) (by omega) q2
          refine ⟨fun h213 => ?_, fun h213 => ?_⟩
          · skip
            refine ⟨fun _ g' => (g' 2 0, g' 2 1) = ((1 : Int), if (1 : Int) = 1 ∧ g19 4 (g19 2 7).toNat = 1 then g19 5 (g19 2 7).toNat else g19 6 (g19 2 7).toNat), ?_, ?_⟩
            · skip
              exact v_1286
            · skip
              intro x219 hx2191 hx2192 g222 rg222 qg222
              have k0 : g 4 (g 2 7).toNat = x8 := by rw [ex8, ex1]
              have kb : (s0 2 8).toNat = b := by omega
              obtain ⟨Q1, N1⟩ : g19 = g ∧ x16 = tokI (toks g) (g 2 7).toNat := qg19
              rw [ha] at N1
              have q2 := qg222
              rw [Q1] at q2
              show RDQ (s0 1) a1.toNat (s0 2 8).toNat 0 g222
              rw [kb]
              exact rd_none tk hr (by omega) (by omega) (by omega) (by omega) (by omega) (by omega) (by omega) q2
          refine ⟨fun h224 => ?_, fun h224 => ?_⟩
          · skip
            refine ⟨fun _ g' => (g' 2 0, g' 2 1) = ((1 : Int), if (1 : Int) = 1 ∧ g19 4 (g19 2 7).toNat = 1 then g19 5 (g19 2 7).toNat else g19 6 (g19 2 7).toNat), ?_, ?_⟩
            · skip
              exact v_1286
            · skip
              intro x230 hx2301 hx2302 g233 rg233 qg233
              have k0 : g 4 (g 2 7).toNat = x8 := by rw [ex8, ex1]
              have kb : (s0 2 8).toNat = b := by omega
              obtain ⟨Q1, N1⟩ : g19 = g ∧ x16 = tokI (toks g) (g 2 7).toNat := qg19
              rw [ha] at N1
              have q2 := qg233
              rw [Q1] at q2
              show RDQ (s0 1) a1.toNat (s0 2 8).toNat 0 g233
              rw [kb]
              exact rd_none tk hr (by omega) (by omega) (by omega) (by omega) (by omega) (by omega) (by omega) q2
          refine ⟨fun h235 => ?_, fun h235 => ?_⟩
          · skip
            refine ⟨fun v g' => ∃ b : Nat, (b : Int) = g19 2 8 ∧ (8 ≤ g19 (b + 13) 0 ∧ v = 0 ∧ (g' 2 0, g' 2 1) = (5, g19 6 (g19 2 7).toNat) ∨ g19 (b + 13) 0 < 8 ∧ (∃ r, spLaw (toks g19) (g19 2 7).toNat r ∧ PO r v g') ∧ (v = 1 → g' (b + 13) 0 = g19 (b + 13) 0 + 1)), ?_, ?_⟩
            · skip
              obtain ⟨Q1, N1⟩ : g19 = g ∧ x16 = tokI (toks g) (g 2 7).toNat := qg19
              rw [Q1]
              exact v_1296 how htw (tokI_2 (t := toks g) (by omega))
            · skip
              intro x241 hx2411 hx2412 g244 rg244 qg244
              refine ⟨fun h246 => ?_, fun h246 => ?_⟩
              · skip
                refine ⟨fun v g' => g' = g244 ∧ (v = 1 ∧ isSg (toks g244) 59 (g244 2 7).toNat ∨ v = 0 ∧ ¬ isSg (toks g244) 59 (g244 2 7).toNat), ?_, ?_⟩
                · skip
                  exact v_1299
                · skip
                  intro x252 hx2521 hx2522 g255 rg255 qg255
                  refine ⟨fun h257 => ?_, fun h257 => ?_⟩
                  · skip
                    refine ⟨fun g' => g' = stp g255, ?_, ?_⟩
                    · skip
                      exact v_1289
                    · skip
                      intro g263 rg263 qg263
                      intro x265 ex265
                      have k0 : g 4 (g 2 7).toNat = x8 := by rw [ex8, ex1]
                      have kb : (s0 2 8).toNat = b := by omega
                      obtain ⟨Q1, N1⟩ : g19 = g ∧ x16 = tokI (toks g) (g 2 7).toNat := qg19
                      rw [ha] at N1
                      have q2 := qg244
                      have r2 := rg244
                      rw [Q1] at q2 r2
                      have h0 : g 4 (g 2 7).toNat ≠ 0 := by omega
                      have h90 : v30_3 ≠ 90 := by omega
                      have E2 : EN g g244 := EN_fr r2 (by decide) (by decide) (by decide)
                      have e82 : g244 2 8 = g 2 8 := r2.s (by decide)
                      have nb : g244 b = g b := by
                        rcases fb with z | z <;> (subst z; exact r2.a (by decide))
                      have n1 : g244 (b + 1) = g (b + 1) := by
                        rcases fb with z | z <;> (subst z; exact r2.a (by decide))
                      have n7 : g244 (b + 7) = g (b + 7) := by
                        rcases fb with z | z <;> (subst z; exact r2.a (by decide))
                      have S2 : STO t b g x241 g244 := STO_law (by omega) ha (by omega) q2 nb n1 n7
                      obtain ⟨Q3, N3⟩ : g255 = g244 ∧ (x252 = 1 ∧ isSg (toks g244) 59 (g244 2 7).toNat ∨ x252 = 0 ∧ ¬ isSg (toks g244) 59 (g244 2 7).toNat) := qg255
                      have q4 := qg263
                      rw [Q3] at q4
                      refine ⟨_, ?_, rfl, t, P, e, b, fb, eb, tk, rd_next hr h90 h0 S2 (by omega) (by omega) (by omega) E2 e82 N3 (by omega) (by omega) q4 (by omega)⟩
                      omega
                  · skip
                    refine ⟨fun _ g' => (g' 2 0, g' 2 1) = ((1 : Int), if (1 : Int) = 1 ∧ g255 4 (g255 2 7).toNat = 1 then g255 5 (g255 2 7).toNat else g255 6 (g255 2 7).toNat), ?_, ?_⟩
                    · skip
                      exact v_1286
                    · skip
                      intro x272 hx2721 hx2722 g275 rg275 qg275
                      have k0 : g 4 (g 2 7).toNat = x8 := by rw [ex8, ex1]
                      have kb : (s0 2 8).toNat = b := by omega
                      obtain ⟨Q1, N1⟩ : g19 = g ∧ x16 = tokI (toks g) (g 2 7).toNat := qg19
                      rw [ha] at N1
                      have q2 := qg244
                      have r2 := rg244
                      rw [Q1] at q2 r2
                      have h0 : g 4 (g 2 7).toNat ≠ 0 := by omega
                      have h90 : v30_3 ≠ 90 := by omega
                      have E2 : EN g g244 := EN_fr r2 (by decide) (by decide) (by decide)
                      have e82 : g244 2 8 = g 2 8 := r2.s (by decide)
                      have nb : g244 b = g b := by
                        rcases fb with z | z <;> (subst z; exact r2.a (by decide))
                      have n1 : g244 (b + 1) = g (b + 1) := by
                        rcases fb with z | z <;> (subst z; exact r2.a (by decide))
                      have n7 : g244 (b + 7) = g (b + 7) := by
                        rcases fb with z | z <;> (subst z; exact r2.a (by decide))
                      have S2 : STO t b g x241 g244 := STO_law (by omega) ha (by omega) q2 nb n1 n7
                      obtain ⟨Q3, N3⟩ : g255 = g244 ∧ (x252 = 1 ∧ isSg (toks g244) 59 (g244 2 7).toNat ∨ x252 = 0 ∧ ¬ isSg (toks g244) 59 (g244 2 7).toNat) := qg255
                      have q4 := qg275
                      rw [Q3] at q4
                      show RDQ (s0 1) a1.toNat (s0 2 8).toNat x272 g275
                      rw [kb]
                      have e0 : x272 = 0 := by omega
                      rw [e0]
                      exact rd_nosc tk hr h90 h0 S2 (by omega) E2 N3 (by omega) q4
              · skip
                have k0 : g 4 (g 2 7).toNat = x8 := by rw [ex8, ex1]
                have kb : (s0 2 8).toNat = b := by omega
                obtain ⟨Q1, N1⟩ : g19 = g ∧ x16 = tokI (toks g) (g 2 7).toNat := qg19
                rw [ha] at N1
                have q2 := qg244
                have r2 := rg244
                rw [Q1] at q2 r2
                have h0 : g 4 (g 2 7).toNat ≠ 0 := by omega
                have h90 : v30_3 ≠ 90 := by omega
                have E2 : EN g g244 := EN_fr r2 (by decide) (by decide) (by decide)
                have e82 : g244 2 8 = g 2 8 := r2.s (by decide)
                have nb : g244 b = g b := by
                  rcases fb with z | z <;> (subst z; exact r2.a (by decide))
                have n1 : g244 (b + 1) = g (b + 1) := by
                  rcases fb with z | z <;> (subst z; exact r2.a (by decide))
                have n7 : g244 (b + 7) = g (b + 7) := by
                  rcases fb with z | z <;> (subst z; exact r2.a (by decide))
                have S2 : STO t b g x241 g244 := STO_law (by omega) ha (by omega) q2 nb n1 n7
                show RDQ (s0 1) a1.toNat (s0 2 8).toNat 0 g244
                rw [kb]
                exact rd_fail tk hr h90 h0 S2 (by omega)
          refine ⟨fun h277 => ?_, fun h277 => ?_⟩
          · skip
            refine ⟨fun v g' => ∃ b : Nat, (b : Int) = g19 2 8 ∧ (8 ≤ g19 (b + 13) 0 ∧ v = 0 ∧ (g' 2 0, g' 2 1) = (5, g19 6 (g19 2 7).toNat) ∨ g19 (b + 13) 0 < 8 ∧ (∃ r, spLaw (toks g19) (g19 2 7).toNat r ∧ PO r v g') ∧ (v = 1 → g' (b + 13) 0 = g19 (b + 13) 0 + 1)), ?_, ?_⟩
            · skip
              obtain ⟨Q1, N1⟩ : g19 = g ∧ x16 = tokI (toks g) (g 2 7).toNat := qg19
              rw [Q1]
              exact v_1296 how htw (tokI_2 (t := toks g) (by omega))
            · skip
              intro x283 hx2831 hx2832 g286 rg286 qg286
              refine ⟨fun h288 => ?_, fun h288 => ?_⟩
              · skip
                refine ⟨fun v g' => g' = g286 ∧ (v = 1 ∧ isSg (toks g286) 59 (g286 2 7).toNat ∨ v = 0 ∧ ¬ isSg (toks g286) 59 (g286 2 7).toNat), ?_, ?_⟩
                · skip
                  exact v_1299
                · skip
                  intro x294 hx2941 hx2942 g297 rg297 qg297
                  refine ⟨fun h299 => ?_, fun h299 => ?_⟩
                  · skip
                    refine ⟨fun g' => g' = stp g297, ?_, ?_⟩
                    · skip
                      exact v_1289
                    · skip
                      intro g305 rg305 qg305
                      intro x307 ex307
                      have k0 : g 4 (g 2 7).toNat = x8 := by rw [ex8, ex1]
                      have kb : (s0 2 8).toNat = b := by omega
                      obtain ⟨Q1, N1⟩ : g19 = g ∧ x16 = tokI (toks g) (g 2 7).toNat := qg19
                      rw [ha] at N1
                      have q2 := qg286
                      have r2 := rg286
                      rw [Q1] at q2 r2
                      have h0 : g 4 (g 2 7).toNat ≠ 0 := by omega
                      have h90 : v30_3 ≠ 90 := by omega
                      have E2 : EN g g286 := EN_fr r2 (by decide) (by decide) (by decide)
                      have e82 : g286 2 8 = g 2 8 := r2.s (by decide)
                      have nb : g286 b = g b := by
                        rcases fb with z | z <;> (subst z; exact r2.a (by decide))
                      have n1 : g286 (b + 1) = g (b + 1) := by
                        rcases fb with z | z <;> (subst z; exact r2.a (by decide))
                      have n7 : g286 (b + 7) = g (b + 7) := by
                        rcases fb with z | z <;> (subst z; exact r2.a (by decide))
                      have S2 : STO t b g x283 g286 := STO_law (by omega) ha (by omega) q2 nb n1 n7
                      obtain ⟨Q3, N3⟩ : g297 = g286 ∧ (x294 = 1 ∧ isSg (toks g286) 59 (g286 2 7).toNat ∨ x294 = 0 ∧ ¬ isSg (toks g286) 59 (g286 2 7).toNat) := qg297
                      have q4 := qg305
                      rw [Q3] at q4
                      refine ⟨_, ?_, rfl, t, P, e, b, fb, eb, tk, rd_next hr h90 h0 S2 (by omega) (by omega) (by omega) E2 e82 N3 (by omega) (by omega) q4 (by omega)⟩
                      omega
                  · skip
                    refine ⟨fun _ g' => (g' 2 0, g' 2 1) = ((1 : Int), if (1 : Int) = 1 ∧ g297 4 (g297 2 7).toNat = 1 then g297 5 (g297 2 7).toNat else g297 6 (g297 2 7).toNat), ?_, ?_⟩
                    · skip
                      exact v_1286
                    · skip
                      intro x314 hx3141 hx3142 g317 rg317 qg317
                      have k0 : g 4 (g 2 7).toNat = x8 := by rw [ex8, ex1]
                      have kb : (s0 2 8).toNat = b := by omega
                      obtain ⟨Q1, N1⟩ : g19 = g ∧ x16 = tokI (toks g) (g 2 7).toNat := qg19
                      rw [ha] at N1
                      have q2 := qg286
                      have r2 := rg286
                      rw [Q1] at q2 r2
                      have h0 : g 4 (g 2 7).toNat ≠ 0 := by omega
                      have h90 : v30_3 ≠ 90 := by omega
                      have E2 : EN g g286 := EN_fr r2 (by decide) (by decide) (by decide)
                      have e82 : g286 2 8 = g 2 8 := r2.s (by decide)
                      have nb : g286 b = g b := by
                        rcases fb with z | z <;> (subst z; exact r2.a (by decide))
                      have n1 : g286 (b + 1) = g (b + 1) := by
                        rcases fb with z | z <;> (subst z; exact r2.a (by decide))
                      have n7 : g286 (b + 7) = g (b + 7) := by
                        rcases fb with z | z <;> (subst z; exact r2.a (by decide))
                      have S2 : STO t b g x283 g286 := STO_law (by omega) ha (by omega) q2 nb n1 n7
                      obtain ⟨Q3, N3⟩ : g297 = g286 ∧ (x294 = 1 ∧ isSg (toks g286) 59 (g286 2 7).toNat ∨ x294 = 0 ∧ ¬ isSg (toks g286) 59 (g286 2 7).toNat) := qg297
                      have q4 := qg317
                      rw [Q3] at q4
                      show RDQ (s0 1) a1.toNat (s0 2 8).toNat x314 g317
                      rw [kb]
                      have e0 : x314 = 0 := by omega
                      rw [e0]
                      exact rd_nosc tk hr h90 h0 S2 (by omega) E2 N3 (by omega) q4
              · skip
                have k0 : g 4 (g 2 7).toNat = x8 := by rw [ex8, ex1]
                have kb : (s0 2 8).toNat = b := by omega
                obtain ⟨Q1, N1⟩ : g19 = g ∧ x16 = tokI (toks g) (g 2 7).toNat := qg19
                rw [ha] at N1
                have q2 := qg286
                have r2 := rg286
                rw [Q1] at q2 r2
                have h0 : g 4 (g 2 7).toNat ≠ 0 := by omega
                have h90 : v30_3 ≠ 90 := by omega
                have E2 : EN g g286 := EN_fr r2 (by decide) (by decide) (by decide)
                have e82 : g286 2 8 = g 2 8 := r2.s (by decide)
                have nb : g286 b = g b := by
                  rcases fb with z | z <;> (subst z; exact r2.a (by decide))
                have n1 : g286 (b + 1) = g (b + 1) := by
                  rcases fb with z | z <;> (subst z; exact r2.a (by decide))
                have n7 : g286 (b + 7) = g (b + 7) := by
                  rcases fb with z | z <;> (subst z; exact r2.a (by decide))
                have S2 : STO t b g x283 g286 := STO_law (by omega) ha (by omega) q2 nb n1 n7
                show RDQ (s0 1) a1.toNat (s0 2 8).toNat 0 g286
                rw [kb]
                exact rd_fail tk hr h90 h0 S2 (by omega)
          refine ⟨fun _ g' => (g' 2 0, g' 2 1) = ((1 : Int), if (1 : Int) = 1 ∧ g19 4 (g19 2 7).toNat = 1 then g19 5 (g19 2 7).toNat else g19 6 (g19 2 7).toNat), ?_, ?_⟩
          · skip
            exact v_1286
          · skip
            intro x324 hx3241 hx3242 g327 rg327 qg327
            have k0 : g 4 (g 2 7).toNat = x8 := by rw [ex8, ex1]
            have kb : (s0 2 8).toNat = b := by omega
            obtain ⟨Q1, N1⟩ : g19 = g ∧ x16 = tokI (toks g) (g 2 7).toNat := qg19
            rw [ha] at N1
            have q2 := qg327
            rw [Q1] at q2
            show RDQ (s0 1) a1.toNat (s0 2 8).toNat 0 g327
            rw [kb]
            exact rd_none tk hr (by omega) (by omega) (by omega) (by omega) (by omega) (by omega) (by omega) q2
      · skip
        refine ⟨fun _ g' => (g' 2 0, g' 2 1) = ((5 : Int), if (5 : Int) = 1 ∧ g 4 (g 2 7).toNat = 1 then g 5 (g 2 7).toNat else g 6 (g 2 7).toNat), ?_, ?_⟩
        · skip
          exact v_1286
        · skip
          intro x334 hx3341 hx3342 g337 rg337 qg337
          have k0 : g 4 (g 2 7).toNat = x8 := by rw [ex8, ex1]
          have kb : (s0 2 8).toNat = b := by omega
          show RDQ (s0 1) a1.toNat (s0 2 8).toNat x334 g337
          rw [kb]
          have e0 : x334 = 0 := by omega
          rw [e0]
          have k90 : v30_3 = 90 := by omega
          rw [k90] at hr
          exact RDI_full tk hr (by omega) (els_q (by decide) qg337)
    · skip
      intro b339 eb339 fb339
      intro g347 eg347
      have k0 : g 4 (g 2 7).toNat = x8 := by rw [ex8, ex1]
      have kb : (s0 2 8).toNat = b := by omega
      show RDQ (s0 1) a1.toNat (s0 2 8).toNat 1 g347
      rw [kb]
      have kb2 : b339 = b := by omega
      rw [kb2] at eg347
      exact RDI_end tk fb hr (by omega) eg347
