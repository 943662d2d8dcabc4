/-! pure proofs of the Reader: SLACKS, the Dorm made empty (wip/safe/vcp.py) -/
set_option maxHeartbeats 4000000 in
theorem v_514 {t : Nat} {s0 : zF} {a0 : Int} : b_514 t s0 a0 (fun _ => True) := by
  unfold b_514
  intro x1 ex1 fx1 gx1
  refine ⟨fun h5 => ?_, fun h5 => ?_⟩
  · skip
    intro g10 eg10
    intro x12 ex12 fx12 gx12
    intro g20 eg20
    trivial
  · skip
    trivial
set_option maxHeartbeats 4000000 in
theorem v_516 {t : Nat} {s0 : zF} : b_516 t s0 (fun _ => True) := by
  unfold b_516
  intro x1 ex1 fx1 gx1
  refine ⟨fun h5 => ?_, fun h5 => ?_⟩
  · skip
    intro x6 ex6 fx6 gx6
    intro g14 eg14
    trivial
  · skip
    trivial
set_option maxHeartbeats 4000000 in
theorem v_517 {t : Nat} {s0 : zF} : b_517 t s0 (fun g => s0 t 0 < 8 → g t 0 = s0 t 0 + 1) := by
  unfold b_517
  intro x1 ex1 fx1 gx1
  refine ⟨fun h5 => ?_, fun h5 => ?_⟩
  · skip
    intro x6 ex6 fx6 gx6
    intro g14 eg14
    intro x16 ex16
    intro g22 eg22
    intro z
    rw [eg22, zup_eq]
    omega
  · skip
    intro z
    exfalso
    omega
set_option maxHeartbeats 4000000 in
theorem v_513 {t : Nat} {s0 : zF} : b_513 t s0 (fun g => g t 0 = 0) := by
  unfold b_513
  intro g5 eg5
  intro g10 eg10
  rw [eg10, zup_ne (Or.inr (by decide)), eg5, zup_eq]
set_option maxHeartbeats 4000000 in
theorem v_257 {t : Nat} {s0 : zF} (ht : t = 7 ∨ t = 28) : b_257 t s0 (fun g => EMP t s0 g) := by
  unfold b_257
  intro g5 eg5
  intro g10 eg10
  intro g15 eg15
  intro g19 rg19 
  refine ⟨fun g' => g' (t + 13) 0 = 0, ?_, ?_⟩
  · skip
    exact v_513
  · skip
    intro g26 rg26 qg26
    have q5 : g26 (t + 13) 0 = 0 := qg26
    rcases ht with z | z <;> subst z
    all_goals
      refine ⟨?_, ?_, q5⟩
      · rw [rg26.s (by decide), rg19.s (by decide), eg15, zup_ne (Or.inr (by decide)), eg10, zup_eq]
      · rw [rg26.s (by decide), rg19.s (by decide), eg15, zup_eq]
set_option maxHeartbeats 4000000 in
theorem v_1294 {s0 : zF} (hw : OWS s0) (ht : TW s0) (hk : s0 4 (s0 2 7).toNat = 2) : b_1294 s0 (fun v g => PO (spSlack (toks s0) (s0 2 7).toNat) v g) := by
  unfold b_1294
  refine ⟨fun g' => g' = stp s0, ?_, ?_⟩
  · skip
    exact v_1289
  · skip
    intro g6 rg6 qg6
    intro x8 ex8 fx8 gx8
    intro x15 ex15 fx15 gx15
    refine ⟨fun h16 => ?_, fun h16 => ?_⟩
    · skip
      refine ⟨fun _ g' => (g' 2 0, g' 2 1) = ((1 : Int), if (1 : Int) = 1 ∧ g6 4 (g6 2 7).toNat = 1 then g6 5 (g6 2 7).toNat else g6 6 (g6 2 7).toNat), ?_, ?_⟩
      · skip
        exact v_1286
      · skip
        intro x22 hx221 hx222 g25 rg25 qg25
        have T1 : g6 = stp s0 := qg6
        obtain ⟨W1, D1, M1, E1⟩ := stp_ok ht (by rw [hk]; decide) (by rw [hk]; decide) T1
        have k1 : g6 4 (g6 2 7).toNat = x15 := by rw [ex15, ex8]
        have H2 := nm_a (s := s0) (lo := 0) (hi := 99) E1 (by rw [k1]; omega) qg25
        rw [M1] at H2
        have key : spSlack (toks s0) (s0 2 7).toNat = .inr (g25 2 0, g25 2 1) := by
          unfold spSlack
          rw [H2]
          all_goals rfl
        exact Or.inr ⟨by omega, key⟩
    · skip
      intro x30 ex30
      intro g35 eg35
      refine ⟨fun h36 => ?_, fun h36 => ?_⟩
      · skip
        refine ⟨fun _ g' => (g' 2 0, g' 2 1) = ((4 : Int), if (4 : Int) = 1 ∧ g35 4 (g35 2 7).toNat = 1 then g35 5 (g35 2 7).toNat else g35 6 (g35 2 7).toNat), ?_, ?_⟩
        · skip
          exact v_1286
        · skip
          intro x42 hx421 hx422 g45 rg45 qg45
          have T1 : g6 = stp s0 := qg6
          obtain ⟨W1, D1, M1, E1⟩ := stp_ok ht (by rw [hk]; decide) (by rw [hk]; decide) T1
          have k1 : g6 4 (g6 2 7).toNat = x15 := by rw [ex15, ex8]
          have w1 : g6 5 (g6 2 7).toNat = x30 := by rw [ex30, ex8]
          have H3 := nm_b (s := s0) (lo := 0) (hi := 99) E1 (by rw [k1]; omega) eg35 (by rw [w1]; omega) qg45
          rw [M1] at H3
          have key : spSlack (toks s0) (s0 2 7).toNat = .inr (g45 2 0, g45 2 1) := by
            unfold spSlack
            rw [H3]
            all_goals rfl
          exact Or.inr ⟨by omega, key⟩
      · skip
        refine ⟨fun h47 => ?_, fun h47 => ?_⟩
        · skip
          refine ⟨fun _ g' => (g' 2 0, g' 2 1) = ((4 : Int), if (4 : Int) = 1 ∧ g35 4 (g35 2 7).toNat = 1 then g35 5 (g35 2 7).toNat else g35 6 (g35 2 7).toNat), ?_, ?_⟩
          · skip
            exact v_1286
          · skip
            intro x53 hx531 hx532 g56 rg56 qg56
            have T1 : g6 = stp s0 := qg6
            obtain ⟨W1, D1, M1, E1⟩ := stp_ok ht (by rw [hk]; decide) (by rw [hk]; decide) T1
            have k1 : g6 4 (g6 2 7).toNat = x15 := by rw [ex15, ex8]
            have w1 : g6 5 (g6 2 7).toNat = x30 := by rw [ex30, ex8]
            have H3 := nm_b (s := s0) (lo := 0) (hi := 99) E1 (by rw [k1]; omega) eg35 (by rw [w1]; omega) qg56
            rw [M1] at H3
            have key : spSlack (toks s0) (s0 2 7).toNat = .inr (g56 2 0, g56 2 1) := by
              unfold spSlack
              rw [H3]
              all_goals rfl
            exact Or.inr ⟨by omega, key⟩
        · skip
          refine ⟨fun g' => g' = stp g35, ?_, ?_⟩
          · skip
            exact v_1289
          · skip
            intro g63 rg63 qg63
            refine ⟨fun v g' => PO (nOw (toks g63) 13 (g63 2 7).toNat) v g', ?_, ?_⟩
            · skip
              have T1 : g6 = stp s0 := qg6
              obtain ⟨W1, D1, M1, E1⟩ := stp_ok ht (by rw [hk]; decide) (by rw [hk]; decide) T1
              have k1 : g6 4 (g6 2 7).toNat = x15 := by rw [ex15, ex8]
              have w1 : g6 5 (g6 2 7).toNat = x30 := by rw [ex30, ex8]
              obtain ⟨H3, W3, E3⟩ := nm_c (s := s0) (lo := 0) (hi := 99) E1 W1 (by rw [k1]; omega) eg35 (by rw [w1]; omega) (qg63 : g63 = stp g35)
              exact v_1291 (OWS_en hw E3) W3 (by decide)
            · skip
              intro x71 hx711 hx712 g74 rg74 qg74
              refine ⟨fun h76 => ?_, fun h76 => ?_⟩
              · skip
                intro x77 ex77 fx77 gx77
                intro x84 ex84 fx84 gx84
                refine ⟨fun h85 => ?_, fun h85 => ?_⟩
                · skip
                  refine ⟨fun _ g' => (g' 2 0, g' 2 1) = ((1 : Int), if (1 : Int) = 1 ∧ g74 4 (g74 2 7).toNat = 1 then g74 5 (g74 2 7).toNat else g74 6 (g74 2 7).toNat), ?_, ?_⟩
                  · skip
                    exact v_1286
                  · skip
                    intro x91 hx911 hx912 g94 rg94 qg94
                    have T1 : g6 = stp s0 := qg6
                    obtain ⟨W1, D1, M1, E1⟩ := stp_ok ht (by rw [hk]; decide) (by rw [hk]; decide) T1
                    have k1 : g6 4 (g6 2 7).toNat = x15 := by rw [ex15, ex8]
                    have w1 : g6 5 (g6 2 7).toNat = x30 := by rw [ex30, ex8]
                    obtain ⟨H3, W3, E3⟩ := nm_c (s := s0) (lo := 0) (hi := 99) E1 W1 (by rw [k1]; omega) eg35 (by rw [w1]; omega) (qg63 : g63 = stp g35)
                    have O4 : PO (nOw (toks g63) 13 (g63 2 7).toNat) x71 g74 := qg74
                    rw [E3.1] at O4
                    obtain ⟨H4, W4⟩ := PO_1 O4 (by omega)
                    have E4 : EN s0 g74 := EN_trans E3 (EN_fr rg74 (by decide) (by decide) (by decide))
                    have k4 : g74 4 (g74 2 7).toNat = x84 := by rw [ex84, ex77]
                    have H5 := nm_a (s := s0) (lo := 0) (hi := 10) E4 (by rw [k4]; omega) qg94
                    rw [M1] at H3
                    have key : spSlack (toks s0) (s0 2 7).toNat = .inr (g94 2 0, g94 2 1) := by
                      unfold spSlack
                      rw [H3, zbd_l, H4, zbd_l, H5]
                      all_goals rfl
                    exact Or.inr ⟨by omega, key⟩
                · skip
                  intro x99 ex99
                  intro g104 eg104
                  refine ⟨fun h105 => ?_, fun h105 => ?_⟩
                  · skip
                    refine ⟨fun _ g' => (g' 2 0, g' 2 1) = ((4 : Int), if (4 : Int) = 1 ∧ g104 4 (g104 2 7).toNat = 1 then g104 5 (g104 2 7).toNat else g104 6 (g104 2 7).toNat), ?_, ?_⟩
                    · skip
                      exact v_1286
                    · skip
                      intro x111 hx1111 hx1112 g114 rg114 qg114
                      have T1 : g6 = stp s0 := qg6
                      obtain ⟨W1, D1, M1, E1⟩ := stp_ok ht (by rw [hk]; decide) (by rw [hk]; decide) T1
                      have k1 : g6 4 (g6 2 7).toNat = x15 := by rw [ex15, ex8]
                      have w1 : g6 5 (g6 2 7).toNat = x30 := by rw [ex30, ex8]
                      obtain ⟨H3, W3, E3⟩ := nm_c (s := s0) (lo := 0) (hi := 99) E1 W1 (by rw [k1]; omega) eg35 (by rw [w1]; omega) (qg63 : g63 = stp g35)
                      have O4 : PO (nOw (toks g63) 13 (g63 2 7).toNat) x71 g74 := qg74
                      rw [E3.1] at O4
                      obtain ⟨H4, W4⟩ := PO_1 O4 (by omega)
                      have E4 : EN s0 g74 := EN_trans E3 (EN_fr rg74 (by decide) (by decide) (by decide))
                      have k4 : g74 4 (g74 2 7).toNat = x84 := by rw [ex84, ex77]
                      have w4 : g74 5 (g74 2 7).toNat = x99 := by rw [ex99, ex77]
                      have H6 := nm_b (s := s0) (lo := 0) (hi := 10) E4 (by rw [k4]; omega) eg104 (by rw [w4]; omega) qg114
                      rw [M1] at H3
                      have key : spSlack (toks s0) (s0 2 7).toNat = .inr (g114 2 0, g114 2 1) := by
                        unfold spSlack
                        rw [H3, zbd_l, H4, zbd_l, H6]
                        all_goals rfl
                      exact Or.inr ⟨by omega, key⟩
                  · skip
                    refine ⟨fun h116 => ?_, fun h116 => ?_⟩
                    · skip
                      refine ⟨fun _ g' => (g' 2 0, g' 2 1) = ((4 : Int), if (4 : Int) = 1 ∧ g104 4 (g104 2 7).toNat = 1 then g104 5 (g104 2 7).toNat else g104 6 (g104 2 7).toNat), ?_, ?_⟩
                      · skip
                        exact v_1286
                      · skip
                        intro x122 hx1221 hx1222 g125 rg125 qg125
                        have T1 : g6 = stp s0 := qg6
                        obtain ⟨W1, D1, M1, E1⟩ := stp_ok ht (by rw [hk]; decide) (by rw [hk]; decide) T1
                        have k1 : g6 4 (g6 2 7).toNat = x15 := by rw [ex15, ex8]
                        have w1 : g6 5 (g6 2 7).toNat = x30 := by rw [ex30, ex8]
                        obtain ⟨H3, W3, E3⟩ := nm_c (s := s0) (lo := 0) (hi := 99) E1 W1 (by rw [k1]; omega) eg35 (by rw [w1]; omega) (qg63 : g63 = stp g35)
                        have O4 : PO (nOw (toks g63) 13 (g63 2 7).toNat) x71 g74 := qg74
                        rw [E3.1] at O4
                        obtain ⟨H4, W4⟩ := PO_1 O4 (by omega)
                        have E4 : EN s0 g74 := EN_trans E3 (EN_fr rg74 (by decide) (by decide) (by decide))
                        have k4 : g74 4 (g74 2 7).toNat = x84 := by rw [ex84, ex77]
                        have w4 : g74 5 (g74 2 7).toNat = x99 := by rw [ex99, ex77]
                        have H6 := nm_b (s := s0) (lo := 0) (hi := 10) E4 (by rw [k4]; omega) eg104 (by rw [w4]; omega) qg125
                        rw [M1] at H3
                        have key : spSlack (toks s0) (s0 2 7).toNat = .inr (g125 2 0, g125 2 1) := by
                          unfold spSlack
                          rw [H3, zbd_l, H4, zbd_l, H6]
                          all_goals rfl
                        exact Or.inr ⟨by omega, key⟩
                    · skip
                      refine ⟨fun g' => g' = stp g104, ?_, ?_⟩
                      · skip
                        exact v_1289
                      · skip
                        intro g132 rg132 qg132
                        intro b134 eb134 fb134
                        intro g143 eg143
                        have T1 : g6 = stp s0 := qg6
                        obtain ⟨W1, D1, M1, E1⟩ := stp_ok ht (by rw [hk]; decide) (by rw [hk]; decide) T1
                        have k1 : g6 4 (g6 2 7).toNat = x15 := by rw [ex15, ex8]
                        have w1 : g6 5 (g6 2 7).toNat = x30 := by rw [ex30, ex8]
                        obtain ⟨H3, W3, E3⟩ := nm_c (s := s0) (lo := 0) (hi := 99) E1 W1 (by rw [k1]; omega) eg35 (by rw [w1]; omega) (qg63 : g63 = stp g35)
                        have O4 : PO (nOw (toks g63) 13 (g63 2 7).toNat) x71 g74 := qg74
                        rw [E3.1] at O4
                        obtain ⟨H4, W4⟩ := PO_1 O4 (by omega)
                        have E4 : EN s0 g74 := EN_trans E3 (EN_fr rg74 (by decide) (by decide) (by decide))
                        have k4 : g74 4 (g74 2 7).toNat = x84 := by rw [ex84, ex77]
                        have w4 : g74 5 (g74 2 7).toNat = x99 := by rw [ex99, ex77]
                        obtain ⟨H6, W6, E6⟩ := nm_c (s := s0) (lo := 0) (hi := 10) E4 W4 (by rw [k4]; omega) eg104 (by rw [w4]; omega) (qg132 : g132 = stp g104)
                        rw [M1] at H3
                        have D9 : g143 2 7 = g132 2 7 := by rw [eg143, zup_ne (Or.inl (by omega))]
                        have key : spSlack (toks s0) (s0 2 7).toNat = .inl (g132 2 7).toNat := by
                          unfold spSlack
                          rw [H3, zbd_l, H4, zbd_l, H6]
                        refine Or.inl ⟨rfl, ?_, TW_en W6 (by rw [eg143]; exact EN_st (by omega)) D9⟩
                        rw [key, D9]
              · skip
                have T1 : g6 = stp s0 := qg6
                obtain ⟨W1, D1, M1, E1⟩ := stp_ok ht (by rw [hk]; decide) (by rw [hk]; decide) T1
                have k1 : g6 4 (g6 2 7).toNat = x15 := by rw [ex15, ex8]
                have w1 : g6 5 (g6 2 7).toNat = x30 := by rw [ex30, ex8]
                obtain ⟨H3, W3, E3⟩ := nm_c (s := s0) (lo := 0) (hi := 99) E1 W1 (by rw [k1]; omega) eg35 (by rw [w1]; omega) (qg63 : g63 = stp g35)
                have O4 : PO (nOw (toks g63) 13 (g63 2 7).toNat) x71 g74 := qg74
                rw [E3.1] at O4
                have H4 := PO_0 O4 (by omega)
                rw [M1] at H3
                have key : spSlack (toks s0) (s0 2 7).toNat = .inr (g74 2 0, g74 2 1) := by
                  unfold spSlack
                  rw [H3, zbd_l, H4]
                  all_goals rfl
                exact Or.inr ⟨by omega, key⟩
