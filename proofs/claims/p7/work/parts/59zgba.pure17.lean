/-! the FAULT's numbers stay while all goes well (wip/safe/vcp.py) -/
set_option maxHeartbeats 4000000 in
theorem w_1290 {s0 : zF} : p_1290 s0 (fun v g => v = 1 → K01 s0 g) := by
  unfold p_1290
  intro x1 ex1 o2 o3 x8 ex8 o5 o6
  refine ⟨fun h7z => ?_, fun h7z => ?_⟩
  · skip
    intro x15 o8 o9 g18 rg18
    intro z
    exfalso
    omega
  · skip
    intro x25 o8 o9 g28 rg28
    refine ⟨fun h11z => ?_, fun h11z => ?_⟩
    · skip
      intro x36 o12 o13 g39 rg39
      intro z
      exfalso
      omega
    · skip
      intro x45 ex45 g50 eg50 b51 eb51 eb51
      intro x60 o16 o17 g63 rg63
      refine ⟨fun h19z => ?_, fun h19z => ?_⟩
      · skip
        intro x71 o20 o21 g74 rg74
        intro z
        exfalso
        omega
      · skip
        intro g81 rg81
        intro z
        have K0 : K01 s0 s0 := K01_refl
        have K1 : K01 s0 g28 := K01_trans K0 (by first | exact K01_fr rg28 (by decide) | (rcases eb51 with z | z <;> (subst z; exact K01_fr rg28 (by decide))) | (rcases eb51 with z | z <;> (subst z; exact K01_fr rg28 (by decide))))
        have K2 : K01 s0 g50 := K01_trans K1 (by rw [eg50]; exact K01_st (by omega))
        have K3 : K01 s0 g63 := K01_trans K2 (by first | exact K01_fr rg63 (by decide) | (rcases eb51 with z | z <;> (subst z; exact K01_fr rg63 (by decide))) | (rcases eb51 with z | z <;> (subst z; exact K01_fr rg63 (by decide))))
        have K4 : K01 s0 g81 := K01_trans K3 (by first | exact K01_fr rg81 (by decide) | (rcases eb51 with z | z <;> (subst z; exact K01_fr rg81 (by decide))) | (rcases eb51 with z | z <;> (subst z; exact K01_fr rg81 (by decide))))
        exact K4
set_option maxHeartbeats 4000000 in
theorem w_1291 {s0 : zF} {a0 : Int} : p_1291 s0 a0 (fun v g => v = 1 → K01 s0 g) := by
  unfold p_1291
  intro x6 o1 o2 g9 rg9
  refine ⟨fun h4z => ?_, fun h4z => ?_⟩
  · skip
    intro x17 o5 o6 g20 rg20
    intro z
    exfalso
    omega
  · skip
    intro g27 rg27
    intro z
    have K0 : K01 s0 s0 := K01_refl
    have K1 : K01 s0 g9 := K01_trans K0 (by first | exact K01_fr rg9 (by decide))
    have K2 : K01 s0 g27 := K01_trans K1 (by first | exact K01_fr rg27 (by decide))
    exact K2
set_option maxHeartbeats 4000000 in
theorem w_1292 {s0 : zF} {a0 : Int} {a1 : Int} : p_1292 s0 a0 a1 (fun v g => v = 1 → K01 s0 g) := by
  unfold p_1292
  intro x1 ex1 o2 o3 x8 ex8 o5 o6
  refine ⟨fun h7z => ?_, fun h7z => ?_⟩
  · skip
    intro x15 o8 o9 g18 rg18
    intro z
    exfalso
    omega
  · skip
    intro x23 ex23 g28 eg28
    refine ⟨fun h10z => ?_, fun h10z => ?_⟩
    · skip
      intro x35 o11 o12 g38 rg38
      intro z
      exfalso
      omega
    · skip
      refine ⟨fun h11z => ?_, fun h11z => ?_⟩
      · skip
        intro x46 o12 o13 g49 rg49
        intro z
        exfalso
        omega
      · skip
        intro g56 rg56
        intro z
        have K0 : K01 s0 s0 := K01_refl
        have K1 : K01 s0 g28 := K01_trans K0 (by rw [eg28]; exact K01_st (by omega))
        have K2 : K01 s0 g56 := K01_trans K1 (by first | exact K01_fr rg56 (by decide))
        exact K2
set_option maxHeartbeats 4000000 in
theorem w_1293 {s0 : zF} {a0 : Int} : p_1293 s0 a0 (fun v g => v = 1 → K01 s0 g) := by
  refine ⟨fun g v12_1 v12_2 => K01 s0 g, ?_, ?_⟩
  · skip
    intro b100 eb100 eb100 g108 eg108
    have K0 : K01 s0 s0 := K01_refl
    have K1 : K01 s0 g108 := K01_trans K0 (by rw [eg108]; exact K01_st (by omega))
    exact K1
  · intro g v12_1 v12_2 rg o1 o2 o3 o4 hI
    refine ⟨fun h5z => ?_, fun h5z => ?_⟩
    · skip
      intro z
      have K0 : K01 s0 g := hI
      exact K0
    · skip
      intro x7 o6 o7 g10 rg10
      refine ⟨fun h9z => ?_, fun h9z => ?_⟩
      · skip
        refine ⟨fun h10z => ?_, fun h10z => ?_⟩
        · skip
          intro z
          have K0 : K01 s0 g := hI
          have K1 : K01 s0 g10 := K01_trans K0 (by first | exact K01_fr rg10 (by decide))
          exact K1
        · skip
          intro b14 eb14 eb14 x21 ex21 o14 o15 x23 ex23 o17 o18
          refine ⟨fun h19z => ?_, fun h19z => ?_⟩
          · skip
            intro x32 o20 o21 g35 rg35
            intro z
            exfalso
            omega
          · skip
            intro x41 ex41 o21 g47 eg47
            intro g53 rg53 x55 ex55
            have K0 : K01 s0 g := hI
            have K1 : K01 s0 g10 := K01_trans K0 (by first | exact K01_fr rg10 (by decide) | (rcases eb14 with z | z <;> (subst z; exact K01_fr rg10 (by decide))) | (rcases eb14 with z | z <;> (subst z; exact K01_fr rg10 (by decide))))
            have K2 : K01 s0 g47 := K01_trans K1 (by rw [eg47]; exact K01_st (by omega))
            have K3 : K01 s0 g53 := K01_trans K2 (by first | exact K01_fr rg53 (by decide) | (rcases eb14 with z | z <;> (subst z; exact K01_fr rg53 (by decide))) | (rcases eb14 with z | z <;> (subst z; exact K01_fr rg53 (by decide))))
            exact K3
      · skip
        intro b57 eb57 eb57 x64 ex64 o13 o14 x66 ex66 o16 o17
        refine ⟨fun h18z => ?_, fun h18z => ?_⟩
        · skip
          intro x75 o19 o20 g78 rg78
          intro z
          exfalso
          omega
        · skip
          intro x84 ex84 o20 g90 eg90
          intro g96 rg96 x98 ex98
          have K0 : K01 s0 g := hI
          have K1 : K01 s0 g10 := K01_trans K0 (by first | exact K01_fr rg10 (by decide) | (rcases eb57 with z | z <;> (subst z; exact K01_fr rg10 (by decide))) | (rcases eb57 with z | z <;> (subst z; exact K01_fr rg10 (by decide))))
          have K2 : K01 s0 g90 := K01_trans K1 (by rw [eg90]; exact K01_st (by omega))
          have K3 : K01 s0 g96 := K01_trans K2 (by first | exact K01_fr rg96 (by decide) | (rcases eb57 with z | z <;> (subst z; exact K01_fr rg96 (by decide))) | (rcases eb57 with z | z <;> (subst z; exact K01_fr rg96 (by decide))))
          exact K3
set_option maxHeartbeats 4000000 in
theorem w_1288 {s0 : zF} : p_1288 s0 (fun v g => v = 1 → K01 s0 g) := by
  unfold p_1288
  intro b1 eb1 eb1 x5 ex5 o4 o5
  refine ⟨fun h6z => ?_, fun h6z => ?_⟩
  · skip
    intro g15 rg15
    refine ⟨fun v g' => v = 1 → K01 g15 g', ?_, ?_⟩
    · skip
      exact w_1290
    · skip
      intro x22 o8 o9 g25 rg25 qg25
      refine ⟨fun h12z => ?_, fun h12z => ?_⟩
      · skip
        intro x29 ex29 g37 eg37
        refine ⟨fun v g' => v = 1 → K01 g37 g', ?_, ?_⟩
        · skip
          exact w_1291
        · skip
          intro x43 o15 o16 g46 rg46 qg46
          refine ⟨fun h19z => ?_, fun h19z => ?_⟩
          · skip
            refine ⟨fun v g' => v = 1 → K01 g46 g', ?_, ?_⟩
            · skip
              exact w_1292
            · skip
              intro x54 o20 o21 g57 rg57 qg57
              refine ⟨fun h24z => ?_, fun h24z => ?_⟩
              · skip
                intro x61 ex61 g69 eg69
                refine ⟨fun v g' => v = 1 → K01 g69 g', ?_, ?_⟩
                · skip
                  exact w_1291
                · skip
                  intro x75 o27 o28 g78 rg78 qg78
                  refine ⟨fun h31z => ?_, fun h31z => ?_⟩
                  · skip
                    refine ⟨fun v g' => v = 1 → K01 g78 g', ?_, ?_⟩
                    · skip
                      exact w_1292
                    · skip
                      intro x86 o32 o33 g89 rg89 qg89
                      refine ⟨fun h36z => ?_, fun h36z => ?_⟩
                      · skip
                        intro x93 ex93 g101 eg101
                        refine ⟨fun v g' => v = 1 → K01 g101 g', ?_, ?_⟩
                        · skip
                          exact w_1291
                        · skip
                          intro x107 o39 o40 g110 rg110 qg110
                          refine ⟨fun h43z => ?_, fun h43z => ?_⟩
                          · skip
                            refine ⟨fun v g' => v = 1 → K01 g110 g', ?_, ?_⟩
                            · skip
                              exact w_1292
                            · skip
                              intro x118 o44 o45 g121 rg121 qg121
                              refine ⟨fun h48z => ?_, fun h48z => ?_⟩
                              · skip
                                intro x125 ex125 g133 eg133
                                refine ⟨fun v g' => v = 1 → K01 g133 g', ?_, ?_⟩
                                · skip
                                  exact w_1291
                                · skip
                                  intro x139 o51 o52 g142 rg142 qg142
                                  refine ⟨fun h55z => ?_, fun h55z => ?_⟩
                                  · skip
                                    refine ⟨fun v g' => v = 1 → K01 g142 g', ?_, ?_⟩
                                    · skip
                                      exact w_1292
                                    · skip
                                      intro x150 o56 o57 g153 rg153 qg153
                                      refine ⟨fun h60z => ?_, fun h60z => ?_⟩
                                      · skip
                                        intro x157 ex157 g165 eg165 x168 ex168 g174 eg174
                                        refine ⟨fun v g' => v = 1 → K01 g174 g', ?_, ?_⟩
                                        · skip
                                          exact w_1293
                                        · skip
                                          intro x180 o65 o66 g183 rg183 qg183
                                          intro z
                                          have K0 : K01 s0 s0 := K01_refl
                                          have K1 : K01 s0 g15 := K01_trans K0 (by first | exact K01_fr rg15 (by decide) | (rcases eb1 with z | z <;> (subst z; exact K01_fr rg15 (by decide))) | (rcases eb1 with z | z <;> (subst z; exact K01_fr rg15 (by decide))))
                                          have K2 : K01 s0 g25 := K01_trans K1 (qg25 (by omega))
                                          have K3 : K01 s0 g37 := K01_trans K2 (by rw [eg37]; exact K01_st (by omega))
                                          have K4 : K01 s0 g46 := K01_trans K3 (qg46 (by omega))
                                          have K5 : K01 s0 g57 := K01_trans K4 (qg57 (by omega))
                                          have K6 : K01 s0 g69 := K01_trans K5 (by rw [eg69]; exact K01_st (by omega))
                                          have K7 : K01 s0 g78 := K01_trans K6 (qg78 (by omega))
                                          have K8 : K01 s0 g89 := K01_trans K7 (qg89 (by omega))
                                          have K9 : K01 s0 g101 := K01_trans K8 (by rw [eg101]; exact K01_st (by omega))
                                          have K10 : K01 s0 g110 := K01_trans K9 (qg110 (by omega))
                                          have K11 : K01 s0 g121 := K01_trans K10 (qg121 (by omega))
                                          have K12 : K01 s0 g133 := K01_trans K11 (by rw [eg133]; exact K01_st (by omega))
                                          have K13 : K01 s0 g142 := K01_trans K12 (qg142 (by omega))
                                          have K14 : K01 s0 g153 := K01_trans K13 (qg153 (by omega))
                                          have K15 : K01 s0 g165 := K01_trans K14 (by rw [eg165]; exact K01_st (by omega))
                                          have K16 : K01 s0 g174 := K01_trans K15 (by rw [eg174]; exact K01_st (by omega))
                                          have K17 : K01 s0 g183 := K01_trans K16 (qg183 (by omega))
                                          exact K17
                                      · skip
                                        intro z
                                        exact absurd z (by decide)
                                  · skip
                                    intro z
                                    exact absurd z (by decide)
                              · skip
                                intro z
                                exact absurd z (by decide)
                          · skip
                            intro z
                            exact absurd z (by decide)
                      · skip
                        intro z
                        exact absurd z (by decide)
                  · skip
                    intro z
                    exact absurd z (by decide)
              · skip
                intro z
                exact absurd z (by decide)
          · skip
            intro z
            exact absurd z (by decide)
      · skip
        intro z
        exact absurd z (by decide)
  · skip
    intro x190 o7 o8 g193 rg193
    intro z
    exfalso
    omega
set_option maxHeartbeats 4000000 in
theorem w_1294 {s0 : zF} : p_1294 s0 (fun v g => v = 1 → K01 s0 g) := by
  unfold p_1294
  intro g6 rg6 x8 ex8 o3 o4 x15 ex15 o6 o7
  refine ⟨fun h8z => ?_, fun h8z => ?_⟩
  · skip
    intro x22 o9 o10 g25 rg25
    intro z
    exact absurd z (by decide)
  · skip
    intro x30 ex30 g35 eg35
    refine ⟨fun h11z => ?_, fun h11z => ?_⟩
    · skip
      intro x42 o12 o13 g45 rg45
      intro z
      exact absurd z (by decide)
    · skip
      refine ⟨fun h12z => ?_, fun h12z => ?_⟩
      · skip
        intro x53 o13 o14 g56 rg56
        intro z
        exact absurd z (by decide)
      · skip
        intro g63 rg63
        refine ⟨fun v g' => v = 1 → K01 g63 g', ?_, ?_⟩
        · skip
          exact w_1291
        · skip
          intro x71 o14 o15 g74 rg74 qg74
          refine ⟨fun h18z => ?_, fun h18z => ?_⟩
          · skip
            intro x77 ex77 o20 o21 x84 ex84 o23 o24
            refine ⟨fun h25z => ?_, fun h25z => ?_⟩
            · skip
              intro x91 o26 o27 g94 rg94
              intro z
              exact absurd z (by decide)
            · skip
              intro x99 ex99 g104 eg104
              refine ⟨fun h28z => ?_, fun h28z => ?_⟩
              · skip
                intro x111 o29 o30 g114 rg114
                intro z
                exact absurd z (by decide)
              · skip
                refine ⟨fun h29z => ?_, fun h29z => ?_⟩
                · skip
                  intro x122 o30 o31 g125 rg125
                  intro z
                  exact absurd z (by decide)
                · skip
                  intro g132 rg132 b134 eb134 eb134 g143 eg143
                  intro z
                  have K0 : K01 s0 s0 := K01_refl
                  have K1 : K01 s0 g6 := K01_trans K0 (by first | exact K01_fr rg6 (by decide) | (rcases eb134 with z | z <;> (subst z; exact K01_fr rg6 (by decide))) | (rcases eb134 with z | z <;> (subst z; exact K01_fr rg6 (by decide))))
                  have K2 : K01 s0 g35 := K01_trans K1 (by rw [eg35]; exact K01_st (by omega))
                  have K3 : K01 s0 g63 := K01_trans K2 (by first | exact K01_fr rg63 (by decide) | (rcases eb134 with z | z <;> (subst z; exact K01_fr rg63 (by decide))) | (rcases eb134 with z | z <;> (subst z; exact K01_fr rg63 (by decide))))
                  have K4 : K01 s0 g74 := K01_trans K3 (qg74 (by omega))
                  have K5 : K01 s0 g104 := K01_trans K4 (by rw [eg104]; exact K01_st (by omega))
                  have K6 : K01 s0 g132 := K01_trans K5 (by first | exact K01_fr rg132 (by decide) | (rcases eb134 with z | z <;> (subst z; exact K01_fr rg132 (by decide))) | (rcases eb134 with z | z <;> (subst z; exact K01_fr rg132 (by decide))))
                  have K7 : K01 s0 g143 := K01_trans K6 (by rw [eg143]; exact K01_st (by omega))
                  exact K7
          · skip
            intro z
            exact absurd z (by decide)
set_option maxHeartbeats 4000000 in
theorem w_1295 {s0 : zF} : p_1295 s0 (fun v g => v = 1 → K01 s0 g) := by
  unfold p_1295
  intro b1 eb1 eb1 x5 ex5 o4 o5
  refine ⟨fun h6z => ?_, fun h6z => ?_⟩
  · skip
    intro g15 rg15
    refine ⟨fun v g' => v = 1 → K01 g15 g', ?_, ?_⟩
    · skip
      exact w_1290
    · skip
      intro x22 o8 o9 g25 rg25 qg25
      refine ⟨fun h12z => ?_, fun h12z => ?_⟩
      · skip
        intro x29 ex29 g37 eg37
        refine ⟨fun v g' => v = 1 → K01 g37 g', ?_, ?_⟩
        · skip
          exact w_1291
        · skip
          intro x43 o15 o16 g46 rg46 qg46
          refine ⟨fun h19z => ?_, fun h19z => ?_⟩
          · skip
            refine ⟨fun v g' => v = 1 → K01 g46 g', ?_, ?_⟩
            · skip
              exact w_1292
            · skip
              intro x54 o20 o21 g57 rg57 qg57
              refine ⟨fun h24z => ?_, fun h24z => ?_⟩
              · skip
                intro x61 ex61 g69 eg69
                refine ⟨fun v g' => v = 1 → K01 g69 g', ?_, ?_⟩
                · skip
                  exact w_1291
                · skip
                  intro x75 o27 o28 g78 rg78 qg78
                  refine ⟨fun h31z => ?_, fun h31z => ?_⟩
                  · skip
                    refine ⟨fun v g' => v = 1 → K01 g78 g', ?_, ?_⟩
                    · skip
                      exact w_1292
                    · skip
                      intro x86 o32 o33 g89 rg89 qg89
                      refine ⟨fun h36z => ?_, fun h36z => ?_⟩
                      · skip
                        intro x93 ex93 g101 eg101
                        refine ⟨fun v g' => v = 1 → K01 g101 g', ?_, ?_⟩
                        · skip
                          exact w_1291
                        · skip
                          intro x107 o39 o40 g110 rg110 qg110
                          refine ⟨fun h43z => ?_, fun h43z => ?_⟩
                          · skip
                            refine ⟨fun v g' => v = 1 → K01 g110 g', ?_, ?_⟩
                            · skip
                              exact w_1292
                            · skip
                              intro x118 o44 o45 g121 rg121 qg121
                              refine ⟨fun h48z => ?_, fun h48z => ?_⟩
                              · skip
                                intro x125 ex125 g133 eg133
                                refine ⟨fun v g' => v = 1 → K01 g133 g', ?_, ?_⟩
                                · skip
                                  exact w_1291
                                · skip
                                  intro x139 o51 o52 g142 rg142 qg142
                                  refine ⟨fun h55z => ?_, fun h55z => ?_⟩
                                  · skip
                                    refine ⟨fun v g' => v = 1 → K01 g142 g', ?_, ?_⟩
                                    · skip
                                      exact w_1292
                                    · skip
                                      intro x150 o56 o57 g153 rg153 qg153
                                      refine ⟨fun h60z => ?_, fun h60z => ?_⟩
                                      · skip
                                        intro x157 ex157 g165 eg165 x168 ex168 g174 eg174
                                        intro z
                                        have K0 : K01 s0 s0 := K01_refl
                                        have K1 : K01 s0 g15 := K01_trans K0 (by first | exact K01_fr rg15 (by decide) | (rcases eb1 with z | z <;> (subst z; exact K01_fr rg15 (by decide))) | (rcases eb1 with z | z <;> (subst z; exact K01_fr rg15 (by decide))))
                                        have K2 : K01 s0 g25 := K01_trans K1 (qg25 (by omega))
                                        have K3 : K01 s0 g37 := K01_trans K2 (by rw [eg37]; exact K01_st (by omega))
                                        have K4 : K01 s0 g46 := K01_trans K3 (qg46 (by omega))
                                        have K5 : K01 s0 g57 := K01_trans K4 (qg57 (by omega))
                                        have K6 : K01 s0 g69 := K01_trans K5 (by rw [eg69]; exact K01_st (by omega))
                                        have K7 : K01 s0 g78 := K01_trans K6 (qg78 (by omega))
                                        have K8 : K01 s0 g89 := K01_trans K7 (qg89 (by omega))
                                        have K9 : K01 s0 g101 := K01_trans K8 (by rw [eg101]; exact K01_st (by omega))
                                        have K10 : K01 s0 g110 := K01_trans K9 (qg110 (by omega))
                                        have K11 : K01 s0 g121 := K01_trans K10 (qg121 (by omega))
                                        have K12 : K01 s0 g133 := K01_trans K11 (by rw [eg133]; exact K01_st (by omega))
                                        have K13 : K01 s0 g142 := K01_trans K12 (qg142 (by omega))
                                        have K14 : K01 s0 g153 := K01_trans K13 (qg153 (by omega))
                                        have K15 : K01 s0 g165 := K01_trans K14 (by rw [eg165]; exact K01_st (by omega))
                                        have K16 : K01 s0 g174 := K01_trans K15 (by rw [eg174]; exact K01_st (by omega))
                                        exact K16
                                      · skip
                                        intro z
                                        exact absurd z (by decide)
                                  · skip
                                    intro z
                                    exact absurd z (by decide)
                              · skip
                                intro z
                                exact absurd z (by decide)
                          · skip
                            intro z
                            exact absurd z (by decide)
                      · skip
                        intro z
                        exact absurd z (by decide)
                  · skip
                    intro z
                    exact absurd z (by decide)
              · skip
                intro z
                exact absurd z (by decide)
          · skip
            intro z
            exact absurd z (by decide)
      · skip
        intro z
        exact absurd z (by decide)
  · skip
    intro x180 o7 o8 g183 rg183
    intro z
    exfalso
    omega
set_option maxHeartbeats 4000000 in
theorem w_1298_c8 {s0 : zF} : p_1298_c8 s0 (fun v g => v = 1 → K01 s0 g) := by
  refine ⟨fun g v73_2 => K01 s0 g, fun g v85_2 => K01 s0 g, fun g v99_2 v99_3 => K01 s0 g, ?_, ?_, ?_, ?_⟩
  · skip
    intro x41 ex41 o2 o3 x48 ex48 o5 o6
    refine ⟨fun h7z => ?_, fun h7z => ?_⟩
    · skip
      intro x55 o8 o9 g58 rg58
      refine ⟨fun h11z => ?_, fun h11z => ?_⟩
      · skip
        refine ⟨fun h12z => ?_, fun h12z => ?_⟩
        · skip
          intro b62 eb62 eb62 x66 ex66
          intro g73 rg73
          intro g80 rg80
          intro z
          have K0 : K01 s0 s0 := K01_refl
          have K1 : K01 s0 g58 := K01_trans K0 (by first | exact K01_fr rg58 (by decide) | (rcases eb62 with z | z <;> (subst z; exact K01_fr rg58 (by decide))) | (rcases eb62 with z | z <;> (subst z; exact K01_fr rg58 (by decide))))
          have K2 : K01 s0 g73 := K01_trans K1 (by first | exact K01_fr rg73 (by decide) | (rcases eb62 with z | z <;> (subst z; exact K01_fr rg73 (by decide))) | (rcases eb62 with z | z <;> (subst z; exact K01_fr rg73 (by decide))))
          have K3 : K01 s0 g80 := K01_trans K2 (by first | exact K01_fr rg80 (by decide) | (rcases eb62 with z | z <;> (subst z; exact K01_fr rg80 (by decide))) | (rcases eb62 with z | z <;> (subst z; exact K01_fr rg80 (by decide))))
          exact K3
        · skip
          have K0 : K01 s0 s0 := K01_refl
          have K1 : K01 s0 g58 := K01_trans K0 (by first | exact K01_fr rg58 (by decide))
          exact K1
      · skip
        have K0 : K01 s0 s0 := K01_refl
        have K1 : K01 s0 g58 := K01_trans K0 (by first | exact K01_fr rg58 (by decide))
        exact K1
    · skip
      intro b82 eb82 eb82 x89 ex89
      intro g95 rg95
      intro g102 rg102
      intro z
      have K0 : K01 s0 s0 := K01_refl
      have K1 : K01 s0 g95 := K01_trans K0 (by first | exact K01_fr rg95 (by decide) | (rcases eb82 with z | z <;> (subst z; exact K01_fr rg95 (by decide))) | (rcases eb82 with z | z <;> (subst z; exact K01_fr rg95 (by decide))))
      have K2 : K01 s0 g102 := K01_trans K1 (by first | exact K01_fr rg102 (by decide) | (rcases eb82 with z | z <;> (subst z; exact K01_fr rg102 (by decide))) | (rcases eb82 with z | z <;> (subst z; exact K01_fr rg102 (by decide))))
      exact K2
  · intro g v73_2 rg o1 o2 hI
    refine ⟨fun h3z => ?_, fun h3z => ?_⟩
    · skip
      refine ⟨fun h4z => ?_, fun h4z => ?_⟩
      · skip
        have K0 : K01 s0 g := hI
        exact K0
      · skip
        have K0 : K01 s0 g := hI
        exact K0
    · skip
      have K0 : K01 s0 g := hI
      exact K0
  · intro g v85_2 rg o1 o2 hI
    intro g8 rg8
    have K0 : K01 s0 g := hI
    have K1 : K01 s0 g8 := K01_trans K0 (by first | exact K01_fr rg8 (by decide))
    exact K1
  · intro g v99_2 v99_3 rg o1 o2 o3 o4 hI
    intro x15 o5 o6 g18 rg18
    refine ⟨fun h8z => ?_, fun h8z => ?_⟩
    · skip
      intro x26 o9 o10 g29 rg29
      intro z
      exfalso
      omega
    · skip
      intro x36 o9 o10 g39 rg39
      intro z
      exfalso
      omega
set_option maxHeartbeats 4000000 in
theorem w_1297_c8 {s0 : zF} : p_1297_c8 s0 (fun v g => v = 1 → K01 s0 g) := by
  refine ⟨fun g v4_2 v4_3 => K01 s0 g, fun g v17_2 v17_3 v17_4 v17_5 => K01 s0 g, fun g v52_2 v52_3 v52_5 => K01 s0 g, fun g v95_2 v95_3 v95_5 s95_0 => K01 s0 g, fun g v115_2 v115_3 => K01 s0 g, fun g v130_3 => K01 s0 g, ?_, ?_, ?_, ?_, ?_, ?_, ?_⟩
  · skip
    have K0 : K01 s0 s0 := K01_refl
    exact K0
  · intro g v4_2 v4_3 rg o1 o2 o3 o4 hI
    refine ⟨fun h5z => ?_, fun h5z => ?_⟩
    · skip
      intro z
      have K0 : K01 s0 g := hI
      exact K0
    · skip
      have K0 : K01 s0 g := hI
      exact K0
  · intro g v17_2 v17_3 v17_4 v17_5 rg o1 o2 o3 o4 o5 o6 o7 hI
    refine ⟨fun h8z => ?_, fun h8z => ?_⟩
    · skip
      have K0 : K01 s0 g := hI
      exact K0
    · skip
      refine ⟨fun v g' => v = 1 → K01 g g', ?_, ?_⟩
      · skip
        exact w_1298_c8
      · skip
        intro x8 o9 o10 g11 rg11 qg11
        refine ⟨fun h13z => ?_, fun h13z => ?_⟩
        · skip
          refine ⟨fun h14z => ?_, fun h14z => ?_⟩
          · skip
            intro b15 eb15 eb15
            intro g24 rg24
            have K0 : K01 s0 g := hI
            have K1 : K01 s0 g11 := K01_trans K0 (qg11 (by omega))
            have K2 : K01 s0 g24 := K01_trans K1 (by first | exact K01_fr rg24 (by decide) | (rcases eb15 with z | z <;> (subst z; exact K01_fr rg24 (by decide))) | (rcases eb15 with z | z <;> (subst z; exact K01_fr rg24 (by decide))))
            exact K2
          · skip
            have K0 : K01 s0 g := hI
            have K1 : K01 s0 g11 := K01_trans K0 (qg11 (by omega))
            exact K1
        · skip
          intro z
          exact absurd z (by decide)
  · intro g v52_2 v52_3 v52_5 rg o1 o2 o3 o4 o5 hI
    intro x31 o6 o7 g34 rg34
    refine ⟨fun h9z => ?_, fun h9z => ?_⟩
    · skip
      have K0 : K01 s0 g := hI
      have K1 : K01 s0 g34 := K01_trans K0 (by first | exact K01_fr rg34 (by decide))
      exact K1
    · skip
      intro x42 o10 o11 g45 rg45
      refine ⟨fun h13z => ?_, fun h13z => ?_⟩
      · skip
        have K0 : K01 s0 g := hI
        have K1 : K01 s0 g34 := K01_trans K0 (by first | exact K01_fr rg34 (by decide))
        have K2 : K01 s0 g45 := K01_trans K1 (by first | exact K01_fr rg45 (by decide))
        exact K2
      · skip
        intro x53 o14 o15 g56 rg56
        refine ⟨fun h17z => ?_, fun h17z => ?_⟩
        · skip
          have K0 : K01 s0 g := hI
          have K1 : K01 s0 g34 := K01_trans K0 (by first | exact K01_fr rg34 (by decide))
          have K2 : K01 s0 g45 := K01_trans K1 (by first | exact K01_fr rg45 (by decide))
          have K3 : K01 s0 g56 := K01_trans K2 (by first | exact K01_fr rg56 (by decide))
          exact K3
        · skip
          have K0 : K01 s0 g := hI
          have K1 : K01 s0 g34 := K01_trans K0 (by first | exact K01_fr rg34 (by decide))
          have K2 : K01 s0 g45 := K01_trans K1 (by first | exact K01_fr rg45 (by decide))
          have K3 : K01 s0 g56 := K01_trans K2 (by first | exact K01_fr rg56 (by decide))
          exact K3
  · intro g v95_2 v95_3 v95_5 s95_0 rg o1 o2 o3 o4 o5 o6 o7 hI
    refine ⟨fun h8z => ?_, fun h8z => ?_⟩
    · skip
      intro g65 rg65 x67 ex67
      have K0 : K01 s0 g := hI
      have K1 : K01 s0 g65 := K01_trans K0 (by first | exact K01_fr rg65 (by decide))
      exact K1
    · skip
      have K0 : K01 s0 g := hI
      exact K0
  · intro g v115_2 v115_3 rg o1 o2 o3 hI
    refine ⟨fun h4z => ?_, fun h4z => ?_⟩
    · skip
      intro b70 eb70 eb70
      intro g79 rg79
      have K0 : K01 s0 g := hI
      have K1 : K01 s0 g79 := K01_trans K0 (by first | exact K01_fr rg79 (by decide) | (rcases eb70 with z | z <;> (subst z; exact K01_fr rg79 (by decide))) | (rcases eb70 with z | z <;> (subst z; exact K01_fr rg79 (by decide))))
      exact K1
    · skip
      have K0 : K01 s0 g := hI
      exact K0
  · intro g v130_3 rg o1 o2 hI
    intro x86 o3 o4 g89 rg89
    refine ⟨fun h6z => ?_, fun h6z => ?_⟩
    · skip
      intro g97 rg97 x99 ex99
      have K0 : K01 s0 g := hI
      have K1 : K01 s0 g89 := K01_trans K0 (by first | exact K01_fr rg89 (by decide))
      have K2 : K01 s0 g97 := K01_trans K1 (by first | exact K01_fr rg97 (by decide))
      exact K2
    · skip
      intro x106 o7 o8 g109 rg109
      refine ⟨fun h10z => ?_, fun h10z => ?_⟩
      · skip
        intro g117 rg117 x119 ex119
        have K0 : K01 s0 g := hI
        have K1 : K01 s0 g89 := K01_trans K0 (by first | exact K01_fr rg89 (by decide))
        have K2 : K01 s0 g109 := K01_trans K1 (by first | exact K01_fr rg109 (by decide))
        have K3 : K01 s0 g117 := K01_trans K2 (by first | exact K01_fr rg117 (by decide))
        exact K3
      · skip
        intro z
        have K0 : K01 s0 g := hI
        have K1 : K01 s0 g89 := K01_trans K0 (by first | exact K01_fr rg89 (by decide))
        have K2 : K01 s0 g109 := K01_trans K1 (by first | exact K01_fr rg109 (by decide))
        exact K2
set_option maxHeartbeats 4000000 in
theorem w_1298_c7 {s0 : zF} : p_1298_c7 s0 (fun v g => v = 1 → K01 s0 g) := by
  refine ⟨fun g v73_2 => K01 s0 g, fun g v85_2 => K01 s0 g, fun g v99_2 v99_3 => K01 s0 g, ?_, ?_, ?_, ?_⟩
  · skip
    intro x192 ex192 o2 o3 x199 ex199 o5 o6
    refine ⟨fun h7z => ?_, fun h7z => ?_⟩
    · skip
      intro x206 o8 o9 g209 rg209
      refine ⟨fun h11z => ?_, fun h11z => ?_⟩
      · skip
        refine ⟨fun h12z => ?_, fun h12z => ?_⟩
        · skip
          intro b213 eb213 eb213 x217 ex217
          intro g224 rg224
          intro g231 rg231
          intro z
          have K0 : K01 s0 s0 := K01_refl
          have K1 : K01 s0 g209 := K01_trans K0 (by first | exact K01_fr rg209 (by decide) | (rcases eb213 with z | z <;> (subst z; exact K01_fr rg209 (by decide))) | (rcases eb213 with z | z <;> (subst z; exact K01_fr rg209 (by decide))))
          have K2 : K01 s0 g224 := K01_trans K1 (by first | exact K01_fr rg224 (by decide) | (rcases eb213 with z | z <;> (subst z; exact K01_fr rg224 (by decide))) | (rcases eb213 with z | z <;> (subst z; exact K01_fr rg224 (by decide))))
          have K3 : K01 s0 g231 := K01_trans K2 (by first | exact K01_fr rg231 (by decide) | (rcases eb213 with z | z <;> (subst z; exact K01_fr rg231 (by decide))) | (rcases eb213 with z | z <;> (subst z; exact K01_fr rg231 (by decide))))
          exact K3
        · skip
          have K0 : K01 s0 s0 := K01_refl
          have K1 : K01 s0 g209 := K01_trans K0 (by first | exact K01_fr rg209 (by decide))
          exact K1
      · skip
        have K0 : K01 s0 s0 := K01_refl
        have K1 : K01 s0 g209 := K01_trans K0 (by first | exact K01_fr rg209 (by decide))
        exact K1
    · skip
      intro b233 eb233 eb233 x240 ex240
      intro g246 rg246
      intro g253 rg253
      intro z
      have K0 : K01 s0 s0 := K01_refl
      have K1 : K01 s0 g246 := K01_trans K0 (by first | exact K01_fr rg246 (by decide) | (rcases eb233 with z | z <;> (subst z; exact K01_fr rg246 (by decide))) | (rcases eb233 with z | z <;> (subst z; exact K01_fr rg246 (by decide))))
      have K2 : K01 s0 g253 := K01_trans K1 (by first | exact K01_fr rg253 (by decide) | (rcases eb233 with z | z <;> (subst z; exact K01_fr rg253 (by decide))) | (rcases eb233 with z | z <;> (subst z; exact K01_fr rg253 (by decide))))
      exact K2
  · intro g v73_2 rg o1 o2 hI
    refine ⟨fun h3z => ?_, fun h3z => ?_⟩
    · skip
      refine ⟨fun h4z => ?_, fun h4z => ?_⟩
      · skip
        have K0 : K01 s0 g := hI
        exact K0
      · skip
        have K0 : K01 s0 g := hI
        exact K0
    · skip
      have K0 : K01 s0 g := hI
      exact K0
  · intro g v85_2 rg o1 o2 hI
    intro g8 rg8
    have K0 : K01 s0 g := hI
    have K1 : K01 s0 g8 := K01_trans K0 (by first | exact K01_fr rg8 (by decide))
    exact K1
  · intro g v99_2 v99_3 rg o1 o2 o3 o4 hI
    intro x15 o5 o6 g18 rg18
    refine ⟨fun h8z => ?_, fun h8z => ?_⟩
    · skip
      intro g26 rg26
      refine ⟨fun v g' => v = 1 → K01 g26 g', ?_, ?_⟩
      · skip
        exact w_1297_c8
      · skip
        intro x33 o10 o11 g36 rg36 qg36
        refine ⟨fun h14z => ?_, fun h14z => ?_⟩
        · skip
          refine ⟨fun h15z => ?_, fun h15z => ?_⟩
          · skip
            intro x45 o16 o17 g48 rg48
            refine ⟨fun h19z => ?_, fun h19z => ?_⟩
            · skip
              intro g56 rg56
              refine ⟨fun v g' => v = 1 → K01 g56 g', ?_, ?_⟩
              · skip
                exact w_1297_c8
              · skip
                intro x63 o21 o22 g66 rg66 qg66
                refine ⟨fun h25z => ?_, fun h25z => ?_⟩
                · skip
                  intro b69 eb69 eb69
                  refine ⟨fun h28z => ?_, fun h28z => ?_⟩
                  · skip
                    intro g79 rg79
                    intro x86 o30 o31 g89 rg89
                    refine ⟨fun h33z => ?_, fun h33z => ?_⟩
                    · skip
                      intro g97 rg97
                      intro z
                      have K0 : K01 s0 g := hI
                      have K1 : K01 s0 g18 := K01_trans K0 (by first | exact K01_fr rg18 (by decide) | (rcases eb69 with z | z <;> (subst z; exact K01_fr rg18 (by decide))) | (rcases eb69 with z | z <;> (subst z; exact K01_fr rg18 (by decide))))
                      have K2 : K01 s0 g26 := K01_trans K1 (by first | exact K01_fr rg26 (by decide) | (rcases eb69 with z | z <;> (subst z; exact K01_fr rg26 (by decide))) | (rcases eb69 with z | z <;> (subst z; exact K01_fr rg26 (by decide))))
                      have K3 : K01 s0 g36 := K01_trans K2 (qg36 (by omega))
                      have K4 : K01 s0 g48 := K01_trans K3 (by first | exact K01_fr rg48 (by decide) | (rcases eb69 with z | z <;> (subst z; exact K01_fr rg48 (by decide))) | (rcases eb69 with z | z <;> (subst z; exact K01_fr rg48 (by decide))))
                      have K5 : K01 s0 g56 := K01_trans K4 (by first | exact K01_fr rg56 (by decide) | (rcases eb69 with z | z <;> (subst z; exact K01_fr rg56 (by decide))) | (rcases eb69 with z | z <;> (subst z; exact K01_fr rg56 (by decide))))
                      have K6 : K01 s0 g66 := K01_trans K5 (qg66 (by omega))
                      have K7 : K01 s0 g79 := K01_trans K6 (by first | exact K01_fr rg79 (by decide) | (rcases eb69 with z | z <;> (subst z; exact K01_fr rg79 (by decide))) | (rcases eb69 with z | z <;> (subst z; exact K01_fr rg79 (by decide))))
                      have K8 : K01 s0 g89 := K01_trans K7 (by first | exact K01_fr rg89 (by decide) | (rcases eb69 with z | z <;> (subst z; exact K01_fr rg89 (by decide))) | (rcases eb69 with z | z <;> (subst z; exact K01_fr rg89 (by decide))))
                      have K9 : K01 s0 g97 := K01_trans K8 (by first | exact K01_fr rg97 (by decide) | (rcases eb69 with z | z <;> (subst z; exact K01_fr rg97 (by decide))) | (rcases eb69 with z | z <;> (subst z; exact K01_fr rg97 (by decide))))
                      exact K9
                    · skip
                      intro x104 o34 o35 g107 rg107
                      intro z
                      exfalso
                      omega
                  · skip
                    intro g114 rg114
                    intro x121 o30 o31 g124 rg124
                    refine ⟨fun h33z => ?_, fun h33z => ?_⟩
                    · skip
                      intro g132 rg132
                      intro z
                      have K0 : K01 s0 g := hI
                      have K1 : K01 s0 g18 := K01_trans K0 (by first | exact K01_fr rg18 (by decide) | (rcases eb69 with z | z <;> (subst z; exact K01_fr rg18 (by decide))) | (rcases eb69 with z | z <;> (subst z; exact K01_fr rg18 (by decide))))
                      have K2 : K01 s0 g26 := K01_trans K1 (by first | exact K01_fr rg26 (by decide) | (rcases eb69 with z | z <;> (subst z; exact K01_fr rg26 (by decide))) | (rcases eb69 with z | z <;> (subst z; exact K01_fr rg26 (by decide))))
                      have K3 : K01 s0 g36 := K01_trans K2 (qg36 (by omega))
                      have K4 : K01 s0 g48 := K01_trans K3 (by first | exact K01_fr rg48 (by decide) | (rcases eb69 with z | z <;> (subst z; exact K01_fr rg48 (by decide))) | (rcases eb69 with z | z <;> (subst z; exact K01_fr rg48 (by decide))))
                      have K5 : K01 s0 g56 := K01_trans K4 (by first | exact K01_fr rg56 (by decide) | (rcases eb69 with z | z <;> (subst z; exact K01_fr rg56 (by decide))) | (rcases eb69 with z | z <;> (subst z; exact K01_fr rg56 (by decide))))
                      have K6 : K01 s0 g66 := K01_trans K5 (qg66 (by omega))
                      have K7 : K01 s0 g114 := K01_trans K6 (by first | exact K01_fr rg114 (by decide) | (rcases eb69 with z | z <;> (subst z; exact K01_fr rg114 (by decide))) | (rcases eb69 with z | z <;> (subst z; exact K01_fr rg114 (by decide))))
                      have K8 : K01 s0 g124 := K01_trans K7 (by first | exact K01_fr rg124 (by decide) | (rcases eb69 with z | z <;> (subst z; exact K01_fr rg124 (by decide))) | (rcases eb69 with z | z <;> (subst z; exact K01_fr rg124 (by decide))))
                      have K9 : K01 s0 g132 := K01_trans K8 (by first | exact K01_fr rg132 (by decide) | (rcases eb69 with z | z <;> (subst z; exact K01_fr rg132 (by decide))) | (rcases eb69 with z | z <;> (subst z; exact K01_fr rg132 (by decide))))
                      exact K9
                    · skip
                      intro x139 o34 o35 g142 rg142
                      intro z
                      exfalso
                      omega
                · skip
                  intro z
                  exact absurd z (by decide)
            · skip
              intro x149 o20 o21 g152 rg152
              intro z
              exfalso
              omega
          · skip
            intro x159 o16 o17 g162 rg162
            refine ⟨fun h19z => ?_, fun h19z => ?_⟩
            · skip
              intro g170 rg170
              intro z
              have K0 : K01 s0 g := hI
              have K1 : K01 s0 g18 := K01_trans K0 (by first | exact K01_fr rg18 (by decide))
              have K2 : K01 s0 g26 := K01_trans K1 (by first | exact K01_fr rg26 (by decide))
              have K3 : K01 s0 g36 := K01_trans K2 (qg36 (by omega))
              have K4 : K01 s0 g162 := K01_trans K3 (by first | exact K01_fr rg162 (by decide))
              have K5 : K01 s0 g170 := K01_trans K4 (by first | exact K01_fr rg170 (by decide))
              exact K5
            · skip
              intro x177 o20 o21 g180 rg180
              intro z
              exfalso
              omega
        · skip
          intro z
          exact absurd z (by decide)
    · skip
      intro x187 o9 o10 g190 rg190
      intro z
      exfalso
      omega
set_option maxHeartbeats 4000000 in
theorem w_1297_c7 {s0 : zF} : p_1297_c7 s0 (fun v g => v = 1 → K01 s0 g) := by
  refine ⟨fun g v4_2 v4_3 => K01 s0 g, fun g v17_2 v17_3 v17_4 v17_5 => K01 s0 g, fun g v52_2 v52_3 v52_5 => K01 s0 g, fun g v95_2 v95_3 v95_5 s95_0 => K01 s0 g, fun g v115_2 v115_3 => K01 s0 g, fun g v130_3 => K01 s0 g, ?_, ?_, ?_, ?_, ?_, ?_, ?_⟩
  · skip
    have K0 : K01 s0 s0 := K01_refl
    exact K0
  · intro g v4_2 v4_3 rg o1 o2 o3 o4 hI
    refine ⟨fun h5z => ?_, fun h5z => ?_⟩
    · skip
      intro z
      have K0 : K01 s0 g := hI
      exact K0
    · skip
      have K0 : K01 s0 g := hI
      exact K0
  · intro g v17_2 v17_3 v17_4 v17_5 rg o1 o2 o3 o4 o5 o6 o7 hI
    refine ⟨fun h8z => ?_, fun h8z => ?_⟩
    · skip
      have K0 : K01 s0 g := hI
      exact K0
    · skip
      refine ⟨fun v g' => v = 1 → K01 g g', ?_, ?_⟩
      · skip
        exact w_1298_c7
      · skip
        intro x8 o9 o10 g11 rg11 qg11
        refine ⟨fun h13z => ?_, fun h13z => ?_⟩
        · skip
          refine ⟨fun h14z => ?_, fun h14z => ?_⟩
          · skip
            intro b15 eb15 eb15
            intro g24 rg24
            have K0 : K01 s0 g := hI
            have K1 : K01 s0 g11 := K01_trans K0 (qg11 (by omega))
            have K2 : K01 s0 g24 := K01_trans K1 (by first | exact K01_fr rg24 (by decide) | (rcases eb15 with z | z <;> (subst z; exact K01_fr rg24 (by decide))) | (rcases eb15 with z | z <;> (subst z; exact K01_fr rg24 (by decide))))
            exact K2
          · skip
            have K0 : K01 s0 g := hI
            have K1 : K01 s0 g11 := K01_trans K0 (qg11 (by omega))
            exact K1
        · skip
          intro z
          exact absurd z (by decide)
  · intro g v52_2 v52_3 v52_5 rg o1 o2 o3 o4 o5 hI
    intro x31 o6 o7 g34 rg34
    refine ⟨fun h9z => ?_, fun h9z => ?_⟩
    · skip
      have K0 : K01 s0 g := hI
      have K1 : K01 s0 g34 := K01_trans K0 (by first | exact K01_fr rg34 (by decide))
      exact K1
    · skip
      intro x42 o10 o11 g45 rg45
      refine ⟨fun h13z => ?_, fun h13z => ?_⟩
      · skip
        have K0 : K01 s0 g := hI
        have K1 : K01 s0 g34 := K01_trans K0 (by first | exact K01_fr rg34 (by decide))
        have K2 : K01 s0 g45 := K01_trans K1 (by first | exact K01_fr rg45 (by decide))
        exact K2
      · skip
        intro x53 o14 o15 g56 rg56
        refine ⟨fun h17z => ?_, fun h17z => ?_⟩
        · skip
          have K0 : K01 s0 g := hI
          have K1 : K01 s0 g34 := K01_trans K0 (by first | exact K01_fr rg34 (by decide))
          have K2 : K01 s0 g45 := K01_trans K1 (by first | exact K01_fr rg45 (by decide))
          have K3 : K01 s0 g56 := K01_trans K2 (by first | exact K01_fr rg56 (by decide))
          exact K3
        · skip
          have K0 : K01 s0 g := hI
          have K1 : K01 s0 g34 := K01_trans K0 (by first | exact K01_fr rg34 (by decide))
          have K2 : K01 s0 g45 := K01_trans K1 (by first | exact K01_fr rg45 (by decide))
          have K3 : K01 s0 g56 := K01_trans K2 (by first | exact K01_fr rg56 (by decide))
          exact K3
  · intro g v95_2 v95_3 v95_5 s95_0 rg o1 o2 o3 o4 o5 o6 o7 hI
    refine ⟨fun h8z => ?_, fun h8z => ?_⟩
    · skip
      intro g65 rg65 x67 ex67
      have K0 : K01 s0 g := hI
      have K1 : K01 s0 g65 := K01_trans K0 (by first | exact K01_fr rg65 (by decide))
      exact K1
    · skip
      have K0 : K01 s0 g := hI
      exact K0
  · intro g v115_2 v115_3 rg o1 o2 o3 hI
    refine ⟨fun h4z => ?_, fun h4z => ?_⟩
    · skip
      intro b70 eb70 eb70
      intro g79 rg79
      have K0 : K01 s0 g := hI
      have K1 : K01 s0 g79 := K01_trans K0 (by first | exact K01_fr rg79 (by decide) | (rcases eb70 with z | z <;> (subst z; exact K01_fr rg79 (by decide))) | (rcases eb70 with z | z <;> (subst z; exact K01_fr rg79 (by decide))))
      exact K1
    · skip
      have K0 : K01 s0 g := hI
      exact K0
  · intro g v130_3 rg o1 o2 hI
    intro x86 o3 o4 g89 rg89
    refine ⟨fun h6z => ?_, fun h6z => ?_⟩
    · skip
      intro g97 rg97 x99 ex99
      have K0 : K01 s0 g := hI
      have K1 : K01 s0 g89 := K01_trans K0 (by first | exact K01_fr rg89 (by decide))
      have K2 : K01 s0 g97 := K01_trans K1 (by first | exact K01_fr rg97 (by decide))
      exact K2
    · skip
      intro x106 o7 o8 g109 rg109
      refine ⟨fun h10z => ?_, fun h10z => ?_⟩
      · skip
        intro g117 rg117 x119 ex119
        have K0 : K01 s0 g := hI
        have K1 : K01 s0 g89 := K01_trans K0 (by first | exact K01_fr rg89 (by decide))
        have K2 : K01 s0 g109 := K01_trans K1 (by first | exact K01_fr rg109 (by decide))
        have K3 : K01 s0 g117 := K01_trans K2 (by first | exact K01_fr rg117 (by decide))
        exact K3
      · skip
        intro z
        have K0 : K01 s0 g := hI
        have K1 : K01 s0 g89 := K01_trans K0 (by first | exact K01_fr rg89 (by decide))
        have K2 : K01 s0 g109 := K01_trans K1 (by first | exact K01_fr rg109 (by decide))
        exact K2
set_option maxHeartbeats 4000000 in
theorem w_1298_c6 {s0 : zF} : p_1298_c6 s0 (fun v g => v = 1 → K01 s0 g) := by
  refine ⟨fun g v73_2 => K01 s0 g, fun g v85_2 => K01 s0 g, fun g v99_2 v99_3 => K01 s0 g, ?_, ?_, ?_, ?_⟩
  · skip
    intro x192 ex192 o2 o3 x199 ex199 o5 o6
    refine ⟨fun h7z => ?_, fun h7z => ?_⟩
    · skip
      intro x206 o8 o9 g209 rg209
      refine ⟨fun h11z => ?_, fun h11z => ?_⟩
      · skip
        refine ⟨fun h12z => ?_, fun h12z => ?_⟩
        · skip
          intro b213 eb213 eb213 x217 ex217
          intro g224 rg224
          intro g231 rg231
          intro z
          have K0 : K01 s0 s0 := K01_refl
          have K1 : K01 s0 g209 := K01_trans K0 (by first | exact K01_fr rg209 (by decide) | (rcases eb213 with z | z <;> (subst z; exact K01_fr rg209 (by decide))) | (rcases eb213 with z | z <;> (subst z; exact K01_fr rg209 (by decide))))
          have K2 : K01 s0 g224 := K01_trans K1 (by first | exact K01_fr rg224 (by decide) | (rcases eb213 with z | z <;> (subst z; exact K01_fr rg224 (by decide))) | (rcases eb213 with z | z <;> (subst z; exact K01_fr rg224 (by decide))))
          have K3 : K01 s0 g231 := K01_trans K2 (by first | exact K01_fr rg231 (by decide) | (rcases eb213 with z | z <;> (subst z; exact K01_fr rg231 (by decide))) | (rcases eb213 with z | z <;> (subst z; exact K01_fr rg231 (by decide))))
          exact K3
        · skip
          have K0 : K01 s0 s0 := K01_refl
          have K1 : K01 s0 g209 := K01_trans K0 (by first | exact K01_fr rg209 (by decide))
          exact K1
      · skip
        have K0 : K01 s0 s0 := K01_refl
        have K1 : K01 s0 g209 := K01_trans K0 (by first | exact K01_fr rg209 (by decide))
        exact K1
    · skip
      intro b233 eb233 eb233 x240 ex240
      intro g246 rg246
      intro g253 rg253
      intro z
      have K0 : K01 s0 s0 := K01_refl
      have K1 : K01 s0 g246 := K01_trans K0 (by first | exact K01_fr rg246 (by decide) | (rcases eb233 with z | z <;> (subst z; exact K01_fr rg246 (by decide))) | (rcases eb233 with z | z <;> (subst z; exact K01_fr rg246 (by decide))))
      have K2 : K01 s0 g253 := K01_trans K1 (by first | exact K01_fr rg253 (by decide) | (rcases eb233 with z | z <;> (subst z; exact K01_fr rg253 (by decide))) | (rcases eb233 with z | z <;> (subst z; exact K01_fr rg253 (by decide))))
      exact K2
  · intro g v73_2 rg o1 o2 hI
    refine ⟨fun h3z => ?_, fun h3z => ?_⟩
    · skip
      refine ⟨fun h4z => ?_, fun h4z => ?_⟩
      · skip
        have K0 : K01 s0 g := hI
        exact K0
      · skip
        have K0 : K01 s0 g := hI
        exact K0
    · skip
      have K0 : K01 s0 g := hI
      exact K0
  · intro g v85_2 rg o1 o2 hI
    intro g8 rg8
    have K0 : K01 s0 g := hI
    have K1 : K01 s0 g8 := K01_trans K0 (by first | exact K01_fr rg8 (by decide))
    exact K1
  · intro g v99_2 v99_3 rg o1 o2 o3 o4 hI
    intro x15 o5 o6 g18 rg18
    refine ⟨fun h8z => ?_, fun h8z => ?_⟩
    · skip
      intro g26 rg26
      refine ⟨fun v g' => v = 1 → K01 g26 g', ?_, ?_⟩
      · skip
        exact w_1297_c7
      · skip
        intro x33 o10 o11 g36 rg36 qg36
        refine ⟨fun h14z => ?_, fun h14z => ?_⟩
        · skip
          refine ⟨fun h15z => ?_, fun h15z => ?_⟩
          · skip
            intro x45 o16 o17 g48 rg48
            refine ⟨fun h19z => ?_, fun h19z => ?_⟩
            · skip
              intro g56 rg56
              refine ⟨fun v g' => v = 1 → K01 g56 g', ?_, ?_⟩
              · skip
                exact w_1297_c7
              · skip
                intro x63 o21 o22 g66 rg66 qg66
                refine ⟨fun h25z => ?_, fun h25z => ?_⟩
                · skip
                  intro b69 eb69 eb69
                  refine ⟨fun h28z => ?_, fun h28z => ?_⟩
                  · skip
                    intro g79 rg79
                    intro x86 o30 o31 g89 rg89
                    refine ⟨fun h33z => ?_, fun h33z => ?_⟩
                    · skip
                      intro g97 rg97
                      intro z
                      have K0 : K01 s0 g := hI
                      have K1 : K01 s0 g18 := K01_trans K0 (by first | exact K01_fr rg18 (by decide) | (rcases eb69 with z | z <;> (subst z; exact K01_fr rg18 (by decide))) | (rcases eb69 with z | z <;> (subst z; exact K01_fr rg18 (by decide))))
                      have K2 : K01 s0 g26 := K01_trans K1 (by first | exact K01_fr rg26 (by decide) | (rcases eb69 with z | z <;> (subst z; exact K01_fr rg26 (by decide))) | (rcases eb69 with z | z <;> (subst z; exact K01_fr rg26 (by decide))))
                      have K3 : K01 s0 g36 := K01_trans K2 (qg36 (by omega))
                      have K4 : K01 s0 g48 := K01_trans K3 (by first | exact K01_fr rg48 (by decide) | (rcases eb69 with z | z <;> (subst z; exact K01_fr rg48 (by decide))) | (rcases eb69 with z | z <;> (subst z; exact K01_fr rg48 (by decide))))
                      have K5 : K01 s0 g56 := K01_trans K4 (by first | exact K01_fr rg56 (by decide) | (rcases eb69 with z | z <;> (subst z; exact K01_fr rg56 (by decide))) | (rcases eb69 with z | z <;> (subst z; exact K01_fr rg56 (by decide))))
                      have K6 : K01 s0 g66 := K01_trans K5 (qg66 (by omega))
                      have K7 : K01 s0 g79 := K01_trans K6 (by first | exact K01_fr rg79 (by decide) | (rcases eb69 with z | z <;> (subst z; exact K01_fr rg79 (by decide))) | (rcases eb69 with z | z <;> (subst z; exact K01_fr rg79 (by decide))))
                      have K8 : K01 s0 g89 := K01_trans K7 (by first | exact K01_fr rg89 (by decide) | (rcases eb69 with z | z <;> (subst z; exact K01_fr rg89 (by decide))) | (rcases eb69 with z | z <;> (subst z; exact K01_fr rg89 (by decide))))
                      have K9 : K01 s0 g97 := K01_trans K8 (by first | exact K01_fr rg97 (by decide) | (rcases eb69 with z | z <;> (subst z; exact K01_fr rg97 (by decide))) | (rcases eb69 with z | z <;> (subst z; exact K01_fr rg97 (by decide))))
                      exact K9
                    · skip
                      intro x104 o34 o35 g107 rg107
                      intro z
                      exfalso
                      omega
                  · skip
                    intro g114 rg114
                    intro x121 o30 o31 g124 rg124
                    refine ⟨fun h33z => ?_, fun h33z => ?_⟩
                    · skip
                      intro g132 rg132
                      intro z
                      have K0 : K01 s0 g := hI
                      have K1 : K01 s0 g18 := K01_trans K0 (by first | exact K01_fr rg18 (by decide) | (rcases eb69 with z | z <;> (subst z; exact K01_fr rg18 (by decide))) | (rcases eb69 with z | z <;> (subst z; exact K01_fr rg18 (by decide))))
                      have K2 : K01 s0 g26 := K01_trans K1 (by first | exact K01_fr rg26 (by decide) | (rcases eb69 with z | z <;> (subst z; exact K01_fr rg26 (by decide))) | (rcases eb69 with z | z <;> (subst z; exact K01_fr rg26 (by decide))))
                      have K3 : K01 s0 g36 := K01_trans K2 (qg36 (by omega))
                      have K4 : K01 s0 g48 := K01_trans K3 (by first | exact K01_fr rg48 (by decide) | (rcases eb69 with z | z <;> (subst z; exact K01_fr rg48 (by decide))) | (rcases eb69 with z | z <;> (subst z; exact K01_fr rg48 (by decide))))
                      have K5 : K01 s0 g56 := K01_trans K4 (by first | exact K01_fr rg56 (by decide) | (rcases eb69 with z | z <;> (subst z; exact K01_fr rg56 (by decide))) | (rcases eb69 with z | z <;> (subst z; exact K01_fr rg56 (by decide))))
                      have K6 : K01 s0 g66 := K01_trans K5 (qg66 (by omega))
                      have K7 : K01 s0 g114 := K01_trans K6 (by first | exact K01_fr rg114 (by decide) | (rcases eb69 with z | z <;> (subst z; exact K01_fr rg114 (by decide))) | (rcases eb69 with z | z <;> (subst z; exact K01_fr rg114 (by decide))))
                      have K8 : K01 s0 g124 := K01_trans K7 (by first | exact K01_fr rg124 (by decide) | (rcases eb69 with z | z <;> (subst z; exact K01_fr rg124 (by decide))) | (rcases eb69 with z | z <;> (subst z; exact K01_fr rg124 (by decide))))
                      have K9 : K01 s0 g132 := K01_trans K8 (by first | exact K01_fr rg132 (by decide) | (rcases eb69 with z | z <;> (subst z; exact K01_fr rg132 (by decide))) | (rcases eb69 with z | z <;> (subst z; exact K01_fr rg132 (by decide))))
                      exact K9
                    · skip
                      intro x139 o34 o35 g142 rg142
                      intro z
                      exfalso
                      omega
                · skip
                  intro z
                  exact absurd z (by decide)
            · skip
              intro x149 o20 o21 g152 rg152
              intro z
              exfalso
              omega
          · skip
            intro x159 o16 o17 g162 rg162
            refine ⟨fun h19z => ?_, fun h19z => ?_⟩
            · skip
              intro g170 rg170
              intro z
              have K0 : K01 s0 g := hI
              have K1 : K01 s0 g18 := K01_trans K0 (by first | exact K01_fr rg18 (by decide))
              have K2 : K01 s0 g26 := K01_trans K1 (by first | exact K01_fr rg26 (by decide))
              have K3 : K01 s0 g36 := K01_trans K2 (qg36 (by omega))
              have K4 : K01 s0 g162 := K01_trans K3 (by first | exact K01_fr rg162 (by decide))
              have K5 : K01 s0 g170 := K01_trans K4 (by first | exact K01_fr rg170 (by decide))
              exact K5
            · skip
              intro x177 o20 o21 g180 rg180
              intro z
              exfalso
              omega
        · skip
          intro z
          exact absurd z (by decide)
    · skip
      intro x187 o9 o10 g190 rg190
      intro z
      exfalso
      omega
set_option maxHeartbeats 4000000 in
theorem w_1297_c6 {s0 : zF} : p_1297_c6 s0 (fun v g => v = 1 → K01 s0 g) := by
  refine ⟨fun g v4_2 v4_3 => K01 s0 g, fun g v17_2 v17_3 v17_4 v17_5 => K01 s0 g, fun g v52_2 v52_3 v52_5 => K01 s0 g, fun g v95_2 v95_3 v95_5 s95_0 => K01 s0 g, fun g v115_2 v115_3 => K01 s0 g, fun g v130_3 => K01 s0 g, ?_, ?_, ?_, ?_, ?_, ?_, ?_⟩
  · skip
    have K0 : K01 s0 s0 := K01_refl
    exact K0
  · intro g v4_2 v4_3 rg o1 o2 o3 o4 hI
    refine ⟨fun h5z => ?_, fun h5z => ?_⟩
    · skip
      intro z
      have K0 : K01 s0 g := hI
      exact K0
    · skip
      have K0 : K01 s0 g := hI
      exact K0
  · intro g v17_2 v17_3 v17_4 v17_5 rg o1 o2 o3 o4 o5 o6 o7 hI
    refine ⟨fun h8z => ?_, fun h8z => ?_⟩
    · skip
      have K0 : K01 s0 g := hI
      exact K0
    · skip
      refine ⟨fun v g' => v = 1 → K01 g g', ?_, ?_⟩
      · skip
        exact w_1298_c6
      · skip
        intro x8 o9 o10 g11 rg11 qg11
        refine ⟨fun h13z => ?_, fun h13z => ?_⟩
        · skip
          refine ⟨fun h14z => ?_, fun h14z => ?_⟩
          · skip
            intro b15 eb15 eb15
            intro g24 rg24
            have K0 : K01 s0 g := hI
            have K1 : K01 s0 g11 := K01_trans K0 (qg11 (by omega))
            have K2 : K01 s0 g24 := K01_trans K1 (by first | exact K01_fr rg24 (by decide) | (rcases eb15 with z | z <;> (subst z; exact K01_fr rg24 (by decide))) | (rcases eb15 with z | z <;> (subst z; exact K01_fr rg24 (by decide))))
            exact K2
          · skip
            have K0 : K01 s0 g := hI
            have K1 : K01 s0 g11 := K01_trans K0 (qg11 (by omega))
            exact K1
        · skip
          intro z
          exact absurd z (by decide)
  · intro g v52_2 v52_3 v52_5 rg o1 o2 o3 o4 o5 hI
    intro x31 o6 o7 g34 rg34
    refine ⟨fun h9z => ?_, fun h9z => ?_⟩
    · skip
      have K0 : K01 s0 g := hI
      have K1 : K01 s0 g34 := K01_trans K0 (by first | exact K01_fr rg34 (by decide))
      exact K1
    · skip
      intro x42 o10 o11 g45 rg45
      refine ⟨fun h13z => ?_, fun h13z => ?_⟩
      · skip
        have K0 : K01 s0 g := hI
        have K1 : K01 s0 g34 := K01_trans K0 (by first | exact K01_fr rg34 (by decide))
        have K2 : K01 s0 g45 := K01_trans K1 (by first | exact K01_fr rg45 (by decide))
        exact K2
      · skip
        intro x53 o14 o15 g56 rg56
        refine ⟨fun h17z => ?_, fun h17z => ?_⟩
        · skip
          have K0 : K01 s0 g := hI
          have K1 : K01 s0 g34 := K01_trans K0 (by first | exact K01_fr rg34 (by decide))
          have K2 : K01 s0 g45 := K01_trans K1 (by first | exact K01_fr rg45 (by decide))
          have K3 : K01 s0 g56 := K01_trans K2 (by first | exact K01_fr rg56 (by decide))
          exact K3
        · skip
          have K0 : K01 s0 g := hI
          have K1 : K01 s0 g34 := K01_trans K0 (by first | exact K01_fr rg34 (by decide))
          have K2 : K01 s0 g45 := K01_trans K1 (by first | exact K01_fr rg45 (by decide))
          have K3 : K01 s0 g56 := K01_trans K2 (by first | exact K01_fr rg56 (by decide))
          exact K3
  · intro g v95_2 v95_3 v95_5 s95_0 rg o1 o2 o3 o4 o5 o6 o7 hI
    refine ⟨fun h8z => ?_, fun h8z => ?_⟩
    · skip
      intro g65 rg65 x67 ex67
      have K0 : K01 s0 g := hI
      have K1 : K01 s0 g65 := K01_trans K0 (by first | exact K01_fr rg65 (by decide))
      exact K1
    · skip
      have K0 : K01 s0 g := hI
      exact K0
  · intro g v115_2 v115_3 rg o1 o2 o3 hI
    refine ⟨fun h4z => ?_, fun h4z => ?_⟩
    · skip
      intro b70 eb70 eb70
      intro g79 rg79
      have K0 : K01 s0 g := hI
      have K1 : K01 s0 g79 := K01_trans K0 (by first | exact K01_fr rg79 (by decide) | (rcases eb70 with z | z <;> (subst z; exact K01_fr rg79 (by decide))) | (rcases eb70 with z | z <;> (subst z; exact K01_fr rg79 (by decide))))
      exact K1
    · skip
      have K0 : K01 s0 g := hI
      exact K0
  · intro g v130_3 rg o1 o2 hI
    intro x86 o3 o4 g89 rg89
    refine ⟨fun h6z => ?_, fun h6z => ?_⟩
    · skip
      intro g97 rg97 x99 ex99
      have K0 : K01 s0 g := hI
      have K1 : K01 s0 g89 := K01_trans K0 (by first | exact K01_fr rg89 (by decide))
      have K2 : K01 s0 g97 := K01_trans K1 (by first | exact K01_fr rg97 (by decide))
      exact K2
    · skip
      intro x106 o7 o8 g109 rg109
      refine ⟨fun h10z => ?_, fun h10z => ?_⟩
      · skip
        intro g117 rg117 x119 ex119
        have K0 : K01 s0 g := hI
        have K1 : K01 s0 g89 := K01_trans K0 (by first | exact K01_fr rg89 (by decide))
        have K2 : K01 s0 g109 := K01_trans K1 (by first | exact K01_fr rg109 (by decide))
        have K3 : K01 s0 g117 := K01_trans K2 (by first | exact K01_fr rg117 (by decide))
        exact K3
      · skip
        intro z
        have K0 : K01 s0 g := hI
        have K1 : K01 s0 g89 := K01_trans K0 (by first | exact K01_fr rg89 (by decide))
        have K2 : K01 s0 g109 := K01_trans K1 (by first | exact K01_fr rg109 (by decide))
        exact K2
set_option maxHeartbeats 4000000 in
theorem w_1298_c5 {s0 : zF} : p_1298_c5 s0 (fun v g => v = 1 → K01 s0 g) := by
  refine ⟨fun g v73_2 => K01 s0 g, fun g v85_2 => K01 s0 g, fun g v99_2 v99_3 => K01 s0 g, ?_, ?_, ?_, ?_⟩
  · skip
    intro x192 ex192 o2 o3 x199 ex199 o5 o6
    refine ⟨fun h7z => ?_, fun h7z => ?_⟩
    · skip
      intro x206 o8 o9 g209 rg209
      refine ⟨fun h11z => ?_, fun h11z => ?_⟩
      · skip
        refine ⟨fun h12z => ?_, fun h12z => ?_⟩
        · skip
          intro b213 eb213 eb213 x217 ex217
          intro g224 rg224
          intro g231 rg231
          intro z
          have K0 : K01 s0 s0 := K01_refl
          have K1 : K01 s0 g209 := K01_trans K0 (by first | exact K01_fr rg209 (by decide) | (rcases eb213 with z | z <;> (subst z; exact K01_fr rg209 (by decide))) | (rcases eb213 with z | z <;> (subst z; exact K01_fr rg209 (by decide))))
          have K2 : K01 s0 g224 := K01_trans K1 (by first | exact K01_fr rg224 (by decide) | (rcases eb213 with z | z <;> (subst z; exact K01_fr rg224 (by decide))) | (rcases eb213 with z | z <;> (subst z; exact K01_fr rg224 (by decide))))
          have K3 : K01 s0 g231 := K01_trans K2 (by first | exact K01_fr rg231 (by decide) | (rcases eb213 with z | z <;> (subst z; exact K01_fr rg231 (by decide))) | (rcases eb213 with z | z <;> (subst z; exact K01_fr rg231 (by decide))))
          exact K3
        · skip
          have K0 : K01 s0 s0 := K01_refl
          have K1 : K01 s0 g209 := K01_trans K0 (by first | exact K01_fr rg209 (by decide))
          exact K1
      · skip
        have K0 : K01 s0 s0 := K01_refl
        have K1 : K01 s0 g209 := K01_trans K0 (by first | exact K01_fr rg209 (by decide))
        exact K1
    · skip
      intro b233 eb233 eb233 x240 ex240
      intro g246 rg246
      intro g253 rg253
      intro z
      have K0 : K01 s0 s0 := K01_refl
      have K1 : K01 s0 g246 := K01_trans K0 (by first | exact K01_fr rg246 (by decide) | (rcases eb233 with z | z <;> (subst z; exact K01_fr rg246 (by decide))) | (rcases eb233 with z | z <;> (subst z; exact K01_fr rg246 (by decide))))
      have K2 : K01 s0 g253 := K01_trans K1 (by first | exact K01_fr rg253 (by decide) | (rcases eb233 with z | z <;> (subst z; exact K01_fr rg253 (by decide))) | (rcases eb233 with z | z <;> (subst z; exact K01_fr rg253 (by decide))))
      exact K2
  · intro g v73_2 rg o1 o2 hI
    refine ⟨fun h3z => ?_, fun h3z => ?_⟩
    · skip
      refine ⟨fun h4z => ?_, fun h4z => ?_⟩
      · skip
        have K0 : K01 s0 g := hI
        exact K0
      · skip
        have K0 : K01 s0 g := hI
        exact K0
    · skip
      have K0 : K01 s0 g := hI
      exact K0
  · intro g v85_2 rg o1 o2 hI
    intro g8 rg8
    have K0 : K01 s0 g := hI
    have K1 : K01 s0 g8 := K01_trans K0 (by first | exact K01_fr rg8 (by decide))
    exact K1
  · intro g v99_2 v99_3 rg o1 o2 o3 o4 hI
    intro x15 o5 o6 g18 rg18
    refine ⟨fun h8z => ?_, fun h8z => ?_⟩
    · skip
      intro g26 rg26
      refine ⟨fun v g' => v = 1 → K01 g26 g', ?_, ?_⟩
      · skip
        exact w_1297_c6
      · skip
        intro x33 o10 o11 g36 rg36 qg36
        refine ⟨fun h14z => ?_, fun h14z => ?_⟩
        · skip
          refine ⟨fun h15z => ?_, fun h15z => ?_⟩
          · skip
            intro x45 o16 o17 g48 rg48
            refine ⟨fun h19z => ?_, fun h19z => ?_⟩
            · skip
              intro g56 rg56
              refine ⟨fun v g' => v = 1 → K01 g56 g', ?_, ?_⟩
              · skip
                exact w_1297_c6
              · skip
                intro x63 o21 o22 g66 rg66 qg66
                refine ⟨fun h25z => ?_, fun h25z => ?_⟩
                · skip
                  intro b69 eb69 eb69
                  refine ⟨fun h28z => ?_, fun h28z => ?_⟩
                  · skip
                    intro g79 rg79
                    intro x86 o30 o31 g89 rg89
                    refine ⟨fun h33z => ?_, fun h33z => ?_⟩
                    · skip
                      intro g97 rg97
                      intro z
                      have K0 : K01 s0 g := hI
                      have K1 : K01 s0 g18 := K01_trans K0 (by first | exact K01_fr rg18 (by decide) | (rcases eb69 with z | z <;> (subst z; exact K01_fr rg18 (by decide))) | (rcases eb69 with z | z <;> (subst z; exact K01_fr rg18 (by decide))))
                      have K2 : K01 s0 g26 := K01_trans K1 (by first | exact K01_fr rg26 (by decide) | (rcases eb69 with z | z <;> (subst z; exact K01_fr rg26 (by decide))) | (rcases eb69 with z | z <;> (subst z; exact K01_fr rg26 (by decide))))
                      have K3 : K01 s0 g36 := K01_trans K2 (qg36 (by omega))
                      have K4 : K01 s0 g48 := K01_trans K3 (by first | exact K01_fr rg48 (by decide) | (rcases eb69 with z | z <;> (subst z; exact K01_fr rg48 (by decide))) | (rcases eb69 with z | z <;> (subst z; exact K01_fr rg48 (by decide))))
                      have K5 : K01 s0 g56 := K01_trans K4 (by first | exact K01_fr rg56 (by decide) | (rcases eb69 with z | z <;> (subst z; exact K01_fr rg56 (by decide))) | (rcases eb69 with z | z <;> (subst z; exact K01_fr rg56 (by decide))))
                      have K6 : K01 s0 g66 := K01_trans K5 (qg66 (by omega))
                      have K7 : K01 s0 g79 := K01_trans K6 (by first | exact K01_fr rg79 (by decide) | (rcases eb69 with z | z <;> (subst z; exact K01_fr rg79 (by decide))) | (rcases eb69 with z | z <;> (subst z; exact K01_fr rg79 (by decide))))
                      have K8 : K01 s0 g89 := K01_trans K7 (by first | exact K01_fr rg89 (by decide) | (rcases eb69 with z | z <;> (subst z; exact K01_fr rg89 (by decide))) | (rcases eb69 with z | z <;> (subst z; exact K01_fr rg89 (by decide))))
                      have K9 : K01 s0 g97 := K01_trans K8 (by first | exact K01_fr rg97 (by decide) | (rcases eb69 with z | z <;> (subst z; exact K01_fr rg97 (by decide))) | (rcases eb69 with z | z <;> (subst z; exact K01_fr rg97 (by decide))))
                      exact K9
                    · skip
                      intro x104 o34 o35 g107 rg107
                      intro z
                      exfalso
                      omega
                  · skip
                    intro g114 rg114
                    intro x121 o30 o31 g124 rg124
                    refine ⟨fun h33z => ?_, fun h33z => ?_⟩
                    · skip
                      intro g132 rg132
                      intro z
                      have K0 : K01 s0 g := hI
                      have K1 : K01 s0 g18 := K01_trans K0 (by first | exact K01_fr rg18 (by decide) | (rcases eb69 with z | z <;> (subst z; exact K01_fr rg18 (by decide))) | (rcases eb69 with z | z <;> (subst z; exact K01_fr rg18 (by decide))))
                      have K2 : K01 s0 g26 := K01_trans K1 (by first | exact K01_fr rg26 (by decide) | (rcases eb69 with z | z <;> (subst z; exact K01_fr rg26 (by decide))) | (rcases eb69 with z | z <;> (subst z; exact K01_fr rg26 (by decide))))
                      have K3 : K01 s0 g36 := K01_trans K2 (qg36 (by omega))
                      have K4 : K01 s0 g48 := K01_trans K3 (by first | exact K01_fr rg48 (by decide) | (rcases eb69 with z | z <;> (subst z; exact K01_fr rg48 (by decide))) | (rcases eb69 with z | z <;> (subst z; exact K01_fr rg48 (by decide))))
                      have K5 : K01 s0 g56 := K01_trans K4 (by first | exact K01_fr rg56 (by decide) | (rcases eb69 with z | z <;> (subst z; exact K01_fr rg56 (by decide))) | (rcases eb69 with z | z <;> (subst z; exact K01_fr rg56 (by decide))))
                      have K6 : K01 s0 g66 := K01_trans K5 (qg66 (by omega))
                      have K7 : K01 s0 g114 := K01_trans K6 (by first | exact K01_fr rg114 (by decide) | (rcases eb69 with z | z <;> (subst z; exact K01_fr rg114 (by decide))) | (rcases eb69 with z | z <;> (subst z; exact K01_fr rg114 (by decide))))
                      have K8 : K01 s0 g124 := K01_trans K7 (by first | exact K01_fr rg124 (by decide) | (rcases eb69 with z | z <;> (subst z; exact K01_fr rg124 (by decide))) | (rcases eb69 with z | z <;> (subst z; exact K01_fr rg124 (by decide))))
                      have K9 : K01 s0 g132 := K01_trans K8 (by first | exact K01_fr rg132 (by decide) | (rcases eb69 with z | z <;> (subst z; exact K01_fr rg132 (by decide))) | (rcases eb69 with z | z <;> (subst z; exact K01_fr rg132 (by decide))))
                      exact K9
                    · skip
                      intro x139 o34 o35 g142 rg142
                      intro z
                      exfalso
                      omega
                · skip
                  intro z
                  exact absurd z (by decide)
            · skip
              intro x149 o20 o21 g152 rg152
              intro z
              exfalso
              omega
          · skip
            intro x159 o16 o17 g162 rg162
            refine ⟨fun h19z => ?_, fun h19z => ?_⟩
            · skip
              intro g170 rg170
              intro z
              have K0 : K01 s0 g := hI
              have K1 : K01 s0 g18 := K01_trans K0 (by first | exact K01_fr rg18 (by decide))
              have K2 : K01 s0 g26 := K01_trans K1 (by first | exact K01_fr rg26 (by decide))
              have K3 : K01 s0 g36 := K01_trans K2 (qg36 (by omega))
              have K4 : K01 s0 g162 := K01_trans K3 (by first | exact K01_fr rg162 (by decide))
              have K5 : K01 s0 g170 := K01_trans K4 (by first | exact K01_fr rg170 (by decide))
              exact K5
            · skip
              intro x177 o20 o21 g180 rg180
              intro z
              exfalso
              omega
        · skip
          intro z
          exact absurd z (by decide)
    · skip
      intro x187 o9 o10 g190 rg190
      intro z
      exfalso
      omega
set_option maxHeartbeats 4000000 in
theorem w_1297_c5 {s0 : zF} : p_1297_c5 s0 (fun v g => v = 1 → K01 s0 g) := by
  refine ⟨fun g v4_2 v4_3 => K01 s0 g, fun g v17_2 v17_3 v17_4 v17_5 => K01 s0 g, fun g v52_2 v52_3 v52_5 => K01 s0 g, fun g v95_2 v95_3 v95_5 s95_0 => K01 s0 g, fun g v115_2 v115_3 => K01 s0 g, fun g v130_3 => K01 s0 g, ?_, ?_, ?_, ?_, ?_, ?_, ?_⟩
  · skip
    have K0 : K01 s0 s0 := K01_refl
    exact K0
  · intro g v4_2 v4_3 rg o1 o2 o3 o4 hI
    refine ⟨fun h5z => ?_, fun h5z => ?_⟩
    · skip
      intro z
      have K0 : K01 s0 g := hI
      exact K0
    · skip
      have K0 : K01 s0 g := hI
      exact K0
  · intro g v17_2 v17_3 v17_4 v17_5 rg o1 o2 o3 o4 o5 o6 o7 hI
    refine ⟨fun h8z => ?_, fun h8z => ?_⟩
    · skip
      have K0 : K01 s0 g := hI
      exact K0
    · skip
      refine ⟨fun v g' => v = 1 → K01 g g', ?_, ?_⟩
      · skip
        exact w_1298_c5
      · skip
        intro x8 o9 o10 g11 rg11 qg11
        refine ⟨fun h13z => ?_, fun h13z => ?_⟩
        · skip
          refine ⟨fun h14z => ?_, fun h14z => ?_⟩
          · skip
            intro b15 eb15 eb15
            intro g24 rg24
            have K0 : K01 s0 g := hI
            have K1 : K01 s0 g11 := K01_trans K0 (qg11 (by omega))
            have K2 : K01 s0 g24 := K01_trans K1 (by first | exact K01_fr rg24 (by decide) | (rcases eb15 with z | z <;> (subst z; exact K01_fr rg24 (by decide))) | (rcases eb15 with z | z <;> (subst z; exact K01_fr rg24 (by decide))))
            exact K2
          · skip
            have K0 : K01 s0 g := hI
            have K1 : K01 s0 g11 := K01_trans K0 (qg11 (by omega))
            exact K1
        · skip
          intro z
          exact absurd z (by decide)
  · intro g v52_2 v52_3 v52_5 rg o1 o2 o3 o4 o5 hI
    intro x31 o6 o7 g34 rg34
    refine ⟨fun h9z => ?_, fun h9z => ?_⟩
    · skip
      have K0 : K01 s0 g := hI
      have K1 : K01 s0 g34 := K01_trans K0 (by first | exact K01_fr rg34 (by decide))
      exact K1
    · skip
      intro x42 o10 o11 g45 rg45
      refine ⟨fun h13z => ?_, fun h13z => ?_⟩
      · skip
        have K0 : K01 s0 g := hI
        have K1 : K01 s0 g34 := K01_trans K0 (by first | exact K01_fr rg34 (by decide))
        have K2 : K01 s0 g45 := K01_trans K1 (by first | exact K01_fr rg45 (by decide))
        exact K2
      · skip
        intro x53 o14 o15 g56 rg56
        refine ⟨fun h17z => ?_, fun h17z => ?_⟩
        · skip
          have K0 : K01 s0 g := hI
          have K1 : K01 s0 g34 := K01_trans K0 (by first | exact K01_fr rg34 (by decide))
          have K2 : K01 s0 g45 := K01_trans K1 (by first | exact K01_fr rg45 (by decide))
          have K3 : K01 s0 g56 := K01_trans K2 (by first | exact K01_fr rg56 (by decide))
          exact K3
        · skip
          have K0 : K01 s0 g := hI
          have K1 : K01 s0 g34 := K01_trans K0 (by first | exact K01_fr rg34 (by decide))
          have K2 : K01 s0 g45 := K01_trans K1 (by first | exact K01_fr rg45 (by decide))
          have K3 : K01 s0 g56 := K01_trans K2 (by first | exact K01_fr rg56 (by decide))
          exact K3
  · intro g v95_2 v95_3 v95_5 s95_0 rg o1 o2 o3 o4 o5 o6 o7 hI
    refine ⟨fun h8z => ?_, fun h8z => ?_⟩
    · skip
      intro g65 rg65 x67 ex67
      have K0 : K01 s0 g := hI
      have K1 : K01 s0 g65 := K01_trans K0 (by first | exact K01_fr rg65 (by decide))
      exact K1
    · skip
      have K0 : K01 s0 g := hI
      exact K0
  · intro g v115_2 v115_3 rg o1 o2 o3 hI
    refine ⟨fun h4z => ?_, fun h4z => ?_⟩
    · skip
      intro b70 eb70 eb70
      intro g79 rg79
      have K0 : K01 s0 g := hI
      have K1 : K01 s0 g79 := K01_trans K0 (by first | exact K01_fr rg79 (by decide) | (rcases eb70 with z | z <;> (subst z; exact K01_fr rg79 (by decide))) | (rcases eb70 with z | z <;> (subst z; exact K01_fr rg79 (by decide))))
      exact K1
    · skip
      have K0 : K01 s0 g := hI
      exact K0
  · intro g v130_3 rg o1 o2 hI
    intro x86 o3 o4 g89 rg89
    refine ⟨fun h6z => ?_, fun h6z => ?_⟩
    · skip
      intro g97 rg97 x99 ex99
      have K0 : K01 s0 g := hI
      have K1 : K01 s0 g89 := K01_trans K0 (by first | exact K01_fr rg89 (by decide))
      have K2 : K01 s0 g97 := K01_trans K1 (by first | exact K01_fr rg97 (by decide))
      exact K2
    · skip
      intro x106 o7 o8 g109 rg109
      refine ⟨fun h10z => ?_, fun h10z => ?_⟩
      · skip
        intro g117 rg117 x119 ex119
        have K0 : K01 s0 g := hI
        have K1 : K01 s0 g89 := K01_trans K0 (by first | exact K01_fr rg89 (by decide))
        have K2 : K01 s0 g109 := K01_trans K1 (by first | exact K01_fr rg109 (by decide))
        have K3 : K01 s0 g117 := K01_trans K2 (by first | exact K01_fr rg117 (by decide))
        exact K3
      · skip
        intro z
        have K0 : K01 s0 g := hI
        have K1 : K01 s0 g89 := K01_trans K0 (by first | exact K01_fr rg89 (by decide))
        have K2 : K01 s0 g109 := K01_trans K1 (by first | exact K01_fr rg109 (by decide))
        exact K2
set_option maxHeartbeats 4000000 in
theorem w_1298_c4 {s0 : zF} : p_1298_c4 s0 (fun v g => v = 1 → K01 s0 g) := by
  refine ⟨fun g v73_2 => K01 s0 g, fun g v85_2 => K01 s0 g, fun g v99_2 v99_3 => K01 s0 g, ?_, ?_, ?_, ?_⟩
  · skip
    intro x192 ex192 o2 o3 x199 ex199 o5 o6
    refine ⟨fun h7z => ?_, fun h7z => ?_⟩
    · skip
      intro x206 o8 o9 g209 rg209
      refine ⟨fun h11z => ?_, fun h11z => ?_⟩
      · skip
        refine ⟨fun h12z => ?_, fun h12z => ?_⟩
        · skip
          intro b213 eb213 eb213 x217 ex217
          intro g224 rg224
          intro g231 rg231
          intro z
          have K0 : K01 s0 s0 := K01_refl
          have K1 : K01 s0 g209 := K01_trans K0 (by first | exact K01_fr rg209 (by decide) | (rcases eb213 with z | z <;> (subst z; exact K01_fr rg209 (by decide))) | (rcases eb213 with z | z <;> (subst z; exact K01_fr rg209 (by decide))))
          have K2 : K01 s0 g224 := K01_trans K1 (by first | exact K01_fr rg224 (by decide) | (rcases eb213 with z | z <;> (subst z; exact K01_fr rg224 (by decide))) | (rcases eb213 with z | z <;> (subst z; exact K01_fr rg224 (by decide))))
          have K3 : K01 s0 g231 := K01_trans K2 (by first | exact K01_fr rg231 (by decide) | (rcases eb213 with z | z <;> (subst z; exact K01_fr rg231 (by decide))) | (rcases eb213 with z | z <;> (subst z; exact K01_fr rg231 (by decide))))
          exact K3
        · skip
          have K0 : K01 s0 s0 := K01_refl
          have K1 : K01 s0 g209 := K01_trans K0 (by first | exact K01_fr rg209 (by decide))
          exact K1
      · skip
        have K0 : K01 s0 s0 := K01_refl
        have K1 : K01 s0 g209 := K01_trans K0 (by first | exact K01_fr rg209 (by decide))
        exact K1
    · skip
      intro b233 eb233 eb233 x240 ex240
      intro g246 rg246
      intro g253 rg253
      intro z
      have K0 : K01 s0 s0 := K01_refl
      have K1 : K01 s0 g246 := K01_trans K0 (by first | exact K01_fr rg246 (by decide) | (rcases eb233 with z | z <;> (subst z; exact K01_fr rg246 (by decide))) | (rcases eb233 with z | z <;> (subst z; exact K01_fr rg246 (by decide))))
      have K2 : K01 s0 g253 := K01_trans K1 (by first | exact K01_fr rg253 (by decide) | (rcases eb233 with z | z <;> (subst z; exact K01_fr rg253 (by decide))) | (rcases eb233 with z | z <;> (subst z; exact K01_fr rg253 (by decide))))
      exact K2
  · intro g v73_2 rg o1 o2 hI
    refine ⟨fun h3z => ?_, fun h3z => ?_⟩
    · skip
      refine ⟨fun h4z => ?_, fun h4z => ?_⟩
      · skip
        have K0 : K01 s0 g := hI
        exact K0
      · skip
        have K0 : K01 s0 g := hI
        exact K0
    · skip
      have K0 : K01 s0 g := hI
      exact K0
  · intro g v85_2 rg o1 o2 hI
    intro g8 rg8
    have K0 : K01 s0 g := hI
    have K1 : K01 s0 g8 := K01_trans K0 (by first | exact K01_fr rg8 (by decide))
    exact K1
  · intro g v99_2 v99_3 rg o1 o2 o3 o4 hI
    intro x15 o5 o6 g18 rg18
    refine ⟨fun h8z => ?_, fun h8z => ?_⟩
    · skip
      intro g26 rg26
      refine ⟨fun v g' => v = 1 → K01 g26 g', ?_, ?_⟩
      · skip
        exact w_1297_c5
      · skip
        intro x33 o10 o11 g36 rg36 qg36
        refine ⟨fun h14z => ?_, fun h14z => ?_⟩
        · skip
          refine ⟨fun h15z => ?_, fun h15z => ?_⟩
          · skip
            intro x45 o16 o17 g48 rg48
            refine ⟨fun h19z => ?_, fun h19z => ?_⟩
            · skip
              intro g56 rg56
              refine ⟨fun v g' => v = 1 → K01 g56 g', ?_, ?_⟩
              · skip
                exact w_1297_c5
              · skip
                intro x63 o21 o22 g66 rg66 qg66
                refine ⟨fun h25z => ?_, fun h25z => ?_⟩
                · skip
                  intro b69 eb69 eb69
                  refine ⟨fun h28z => ?_, fun h28z => ?_⟩
                  · skip
                    intro g79 rg79
                    intro x86 o30 o31 g89 rg89
                    refine ⟨fun h33z => ?_, fun h33z => ?_⟩
                    · skip
                      intro g97 rg97
                      intro z
                      have K0 : K01 s0 g := hI
                      have K1 : K01 s0 g18 := K01_trans K0 (by first | exact K01_fr rg18 (by decide) | (rcases eb69 with z | z <;> (subst z; exact K01_fr rg18 (by decide))) | (rcases eb69 with z | z <;> (subst z; exact K01_fr rg18 (by decide))))
                      have K2 : K01 s0 g26 := K01_trans K1 (by first | exact K01_fr rg26 (by decide) | (rcases eb69 with z | z <;> (subst z; exact K01_fr rg26 (by decide))) | (rcases eb69 with z | z <;> (subst z; exact K01_fr rg26 (by decide))))
                      have K3 : K01 s0 g36 := K01_trans K2 (qg36 (by omega))
                      have K4 : K01 s0 g48 := K01_trans K3 (by first | exact K01_fr rg48 (by decide) | (rcases eb69 with z | z <;> (subst z; exact K01_fr rg48 (by decide))) | (rcases eb69 with z | z <;> (subst z; exact K01_fr rg48 (by decide))))
                      have K5 : K01 s0 g56 := K01_trans K4 (by first | exact K01_fr rg56 (by decide) | (rcases eb69 with z | z <;> (subst z; exact K01_fr rg56 (by decide))) | (rcases eb69 with z | z <;> (subst z; exact K01_fr rg56 (by decide))))
                      have K6 : K01 s0 g66 := K01_trans K5 (qg66 (by omega))
                      have K7 : K01 s0 g79 := K01_trans K6 (by first | exact K01_fr rg79 (by decide) | (rcases eb69 with z | z <;> (subst z; exact K01_fr rg79 (by decide))) | (rcases eb69 with z | z <;> (subst z; exact K01_fr rg79 (by decide))))
                      have K8 : K01 s0 g89 := K01_trans K7 (by first | exact K01_fr rg89 (by decide) | (rcases eb69 with z | z <;> (subst z; exact K01_fr rg89 (by decide))) | (rcases eb69 with z | z <;> (subst z; exact K01_fr rg89 (by decide))))
                      have K9 : K01 s0 g97 := K01_trans K8 (by first | exact K01_fr rg97 (by decide) | (rcases eb69 with z | z <;> (subst z; exact K01_fr rg97 (by decide))) | (rcases eb69 with z | z <;> (subst z; exact K01_fr rg97 (by decide))))
                      exact K9
                    · skip
                      intro x104 o34 o35 g107 rg107
                      intro z
                      exfalso
                      omega
                  · skip
                    intro g114 rg114
                    intro x121 o30 o31 g124 rg124
                    refine ⟨fun h33z => ?_, fun h33z => ?_⟩
                    · skip
                      intro g132 rg132
                      intro z
                      have K0 : K01 s0 g := hI
                      have K1 : K01 s0 g18 := K01_trans K0 (by first | exact K01_fr rg18 (by decide) | (rcases eb69 with z | z <;> (subst z; exact K01_fr rg18 (by decide))) | (rcases eb69 with z | z <;> (subst z; exact K01_fr rg18 (by decide))))
                      have K2 : K01 s0 g26 := K01_trans K1 (by first | exact K01_fr rg26 (by decide) | (rcases eb69 with z | z <;> (subst z; exact K01_fr rg26 (by decide))) | (rcases eb69 with z | z <;> (subst z; exact K01_fr rg26 (by decide))))
                      have K3 : K01 s0 g36 := K01_trans K2 (qg36 (by omega))
                      have K4 : K01 s0 g48 := K01_trans K3 (by first | exact K01_fr rg48 (by decide) | (rcases eb69 with z | z <;> (subst z; exact K01_fr rg48 (by decide))) | (rcases eb69 with z | z <;> (subst z; exact K01_fr rg48 (by decide))))
                      have K5 : K01 s0 g56 := K01_trans K4 (by first | exact K01_fr rg56 (by decide) | (rcases eb69 with z | z <;> (subst z; exact K01_fr rg56 (by decide))) | (rcases eb69 with z | z <;> (subst z; exact K01_fr rg56 (by decide))))
                      have K6 : K01 s0 g66 := K01_trans K5 (qg66 (by omega))
                      have K7 : K01 s0 g114 := K01_trans K6 (by first | exact K01_fr rg114 (by decide) | (rcases eb69 with z | z <;> (subst z; exact K01_fr rg114 (by decide))) | (rcases eb69 with z | z <;> (subst z; exact K01_fr rg114 (by decide))))
                      have K8 : K01 s0 g124 := K01_trans K7 (by first | exact K01_fr rg124 (by decide) | (rcases eb69 with z | z <;> (subst z; exact K01_fr rg124 (by decide))) | (rcases eb69 with z | z <;> (subst z; exact K01_fr rg124 (by decide))))
                      have K9 : K01 s0 g132 := K01_trans K8 (by first | exact K01_fr rg132 (by decide) | (rcases eb69 with z | z <;> (subst z; exact K01_fr rg132 (by decide))) | (rcases eb69 with z | z <;> (subst z; exact K01_fr rg132 (by decide))))
                      exact K9
                    · skip
                      intro x139 o34 o35 g142 rg142
                      intro z
                      exfalso
                      omega
                · skip
                  intro z
                  exact absurd z (by decide)
            · skip
              intro x149 o20 o21 g152 rg152
              intro z
              exfalso
              omega
          · skip
            intro x159 o16 o17 g162 rg162
            refine ⟨fun h19z => ?_, fun h19z => ?_⟩
            · skip
              intro g170 rg170
              intro z
              have K0 : K01 s0 g := hI
              have K1 : K01 s0 g18 := K01_trans K0 (by first | exact K01_fr rg18 (by decide))
              have K2 : K01 s0 g26 := K01_trans K1 (by first | exact K01_fr rg26 (by decide))
              have K3 : K01 s0 g36 := K01_trans K2 (qg36 (by omega))
              have K4 : K01 s0 g162 := K01_trans K3 (by first | exact K01_fr rg162 (by decide))
              have K5 : K01 s0 g170 := K01_trans K4 (by first | exact K01_fr rg170 (by decide))
              exact K5
            · skip
              intro x177 o20 o21 g180 rg180
              intro z
              exfalso
              omega
        · skip
          intro z
          exact absurd z (by decide)
    · skip
      intro x187 o9 o10 g190 rg190
      intro z
      exfalso
      omega
set_option maxHeartbeats 4000000 in
theorem w_1297_c4 {s0 : zF} : p_1297_c4 s0 (fun v g => v = 1 → K01 s0 g) := by
  refine ⟨fun g v4_2 v4_3 => K01 s0 g, fun g v17_2 v17_3 v17_4 v17_5 => K01 s0 g, fun g v52_2 v52_3 v52_5 => K01 s0 g, fun g v95_2 v95_3 v95_5 s95_0 => K01 s0 g, fun g v115_2 v115_3 => K01 s0 g, fun g v130_3 => K01 s0 g, ?_, ?_, ?_, ?_, ?_, ?_, ?_⟩
  · skip
    have K0 : K01 s0 s0 := K01_refl
    exact K0
  · intro g v4_2 v4_3 rg o1 o2 o3 o4 hI
    refine ⟨fun h5z => ?_, fun h5z => ?_⟩
    · skip
      intro z
      have K0 : K01 s0 g := hI
      exact K0
    · skip
      have K0 : K01 s0 g := hI
      exact K0
  · intro g v17_2 v17_3 v17_4 v17_5 rg o1 o2 o3 o4 o5 o6 o7 hI
    refine ⟨fun h8z => ?_, fun h8z => ?_⟩
    · skip
      have K0 : K01 s0 g := hI
      exact K0
    · skip
      refine ⟨fun v g' => v = 1 → K01 g g', ?_, ?_⟩
      · skip
        exact w_1298_c4
      · skip
        intro x8 o9 o10 g11 rg11 qg11
        refine ⟨fun h13z => ?_, fun h13z => ?_⟩
        · skip
          refine ⟨fun h14z => ?_, fun h14z => ?_⟩
          · skip
            intro b15 eb15 eb15
            intro g24 rg24
            have K0 : K01 s0 g := hI
            have K1 : K01 s0 g11 := K01_trans K0 (qg11 (by omega))
            have K2 : K01 s0 g24 := K01_trans K1 (by first | exact K01_fr rg24 (by decide) | (rcases eb15 with z | z <;> (subst z; exact K01_fr rg24 (by decide))) | (rcases eb15 with z | z <;> (subst z; exact K01_fr rg24 (by decide))))
            exact K2
          · skip
            have K0 : K01 s0 g := hI
            have K1 : K01 s0 g11 := K01_trans K0 (qg11 (by omega))
            exact K1
        · skip
          intro z
          exact absurd z (by decide)
  · intro g v52_2 v52_3 v52_5 rg o1 o2 o3 o4 o5 hI
    intro x31 o6 o7 g34 rg34
    refine ⟨fun h9z => ?_, fun h9z => ?_⟩
    · skip
      have K0 : K01 s0 g := hI
      have K1 : K01 s0 g34 := K01_trans K0 (by first | exact K01_fr rg34 (by decide))
      exact K1
    · skip
      intro x42 o10 o11 g45 rg45
      refine ⟨fun h13z => ?_, fun h13z => ?_⟩
      · skip
        have K0 : K01 s0 g := hI
        have K1 : K01 s0 g34 := K01_trans K0 (by first | exact K01_fr rg34 (by decide))
        have K2 : K01 s0 g45 := K01_trans K1 (by first | exact K01_fr rg45 (by decide))
        exact K2
      · skip
        intro x53 o14 o15 g56 rg56
        refine ⟨fun h17z => ?_, fun h17z => ?_⟩
        · skip
          have K0 : K01 s0 g := hI
          have K1 : K01 s0 g34 := K01_trans K0 (by first | exact K01_fr rg34 (by decide))
          have K2 : K01 s0 g45 := K01_trans K1 (by first | exact K01_fr rg45 (by decide))
          have K3 : K01 s0 g56 := K01_trans K2 (by first | exact K01_fr rg56 (by decide))
          exact K3
        · skip
          have K0 : K01 s0 g := hI
          have K1 : K01 s0 g34 := K01_trans K0 (by first | exact K01_fr rg34 (by decide))
          have K2 : K01 s0 g45 := K01_trans K1 (by first | exact K01_fr rg45 (by decide))
          have K3 : K01 s0 g56 := K01_trans K2 (by first | exact K01_fr rg56 (by decide))
          exact K3
  · intro g v95_2 v95_3 v95_5 s95_0 rg o1 o2 o3 o4 o5 o6 o7 hI
    refine ⟨fun h8z => ?_, fun h8z => ?_⟩
    · skip
      intro g65 rg65 x67 ex67
      have K0 : K01 s0 g := hI
      have K1 : K01 s0 g65 := K01_trans K0 (by first | exact K01_fr rg65 (by decide))
      exact K1
    · skip
      have K0 : K01 s0 g := hI
      exact K0
  · intro g v115_2 v115_3 rg o1 o2 o3 hI
    refine ⟨fun h4z => ?_, fun h4z => ?_⟩
    · skip
      intro b70 eb70 eb70
      intro g79 rg79
      have K0 : K01 s0 g := hI
      have K1 : K01 s0 g79 := K01_trans K0 (by first | exact K01_fr rg79 (by decide) | (rcases eb70 with z | z <;> (subst z; exact K01_fr rg79 (by decide))) | (rcases eb70 with z | z <;> (subst z; exact K01_fr rg79 (by decide))))
      exact K1
    · skip
      have K0 : K01 s0 g := hI
      exact K0
  · intro g v130_3 rg o1 o2 hI
    intro x86 o3 o4 g89 rg89
    refine ⟨fun h6z => ?_, fun h6z => ?_⟩
    · skip
      intro g97 rg97 x99 ex99
      have K0 : K01 s0 g := hI
      have K1 : K01 s0 g89 := K01_trans K0 (by first | exact K01_fr rg89 (by decide))
      have K2 : K01 s0 g97 := K01_trans K1 (by first | exact K01_fr rg97 (by decide))
      exact K2
    · skip
      intro x106 o7 o8 g109 rg109
      refine ⟨fun h10z => ?_, fun h10z => ?_⟩
      · skip
        intro g117 rg117 x119 ex119
        have K0 : K01 s0 g := hI
        have K1 : K01 s0 g89 := K01_trans K0 (by first | exact K01_fr rg89 (by decide))
        have K2 : K01 s0 g109 := K01_trans K1 (by first | exact K01_fr rg109 (by decide))
        have K3 : K01 s0 g117 := K01_trans K2 (by first | exact K01_fr rg117 (by decide))
        exact K3
      · skip
        intro z
        have K0 : K01 s0 g := hI
        have K1 : K01 s0 g89 := K01_trans K0 (by first | exact K01_fr rg89 (by decide))
        have K2 : K01 s0 g109 := K01_trans K1 (by first | exact K01_fr rg109 (by decide))
        exact K2
set_option maxHeartbeats 4000000 in
theorem w_1298_c3 {s0 : zF} : p_1298_c3 s0 (fun v g => v = 1 → K01 s0 g) := by
  refine ⟨fun g v73_2 => K01 s0 g, fun g v85_2 => K01 s0 g, fun g v99_2 v99_3 => K01 s0 g, ?_, ?_, ?_, ?_⟩
  · skip
    intro x192 ex192 o2 o3 x199 ex199 o5 o6
    refine ⟨fun h7z => ?_, fun h7z => ?_⟩
    · skip
      intro x206 o8 o9 g209 rg209
      refine ⟨fun h11z => ?_, fun h11z => ?_⟩
      · skip
        refine ⟨fun h12z => ?_, fun h12z => ?_⟩
        · skip
          intro b213 eb213 eb213 x217 ex217
          intro g224 rg224
          intro g231 rg231
          intro z
          have K0 : K01 s0 s0 := K01_refl
          have K1 : K01 s0 g209 := K01_trans K0 (by first | exact K01_fr rg209 (by decide) | (rcases eb213 with z | z <;> (subst z; exact K01_fr rg209 (by decide))) | (rcases eb213 with z | z <;> (subst z; exact K01_fr rg209 (by decide))))
          have K2 : K01 s0 g224 := K01_trans K1 (by first | exact K01_fr rg224 (by decide) | (rcases eb213 with z | z <;> (subst z; exact K01_fr rg224 (by decide))) | (rcases eb213 with z | z <;> (subst z; exact K01_fr rg224 (by decide))))
          have K3 : K01 s0 g231 := K01_trans K2 (by first | exact K01_fr rg231 (by decide) | (rcases eb213 with z | z <;> (subst z; exact K01_fr rg231 (by decide))) | (rcases eb213 with z | z <;> (subst z; exact K01_fr rg231 (by decide))))
          exact K3
        · skip
          have K0 : K01 s0 s0 := K01_refl
          have K1 : K01 s0 g209 := K01_trans K0 (by first | exact K01_fr rg209 (by decide))
          exact K1
      · skip
        have K0 : K01 s0 s0 := K01_refl
        have K1 : K01 s0 g209 := K01_trans K0 (by first | exact K01_fr rg209 (by decide))
        exact K1
    · skip
      intro b233 eb233 eb233 x240 ex240
      intro g246 rg246
      intro g253 rg253
      intro z
      have K0 : K01 s0 s0 := K01_refl
      have K1 : K01 s0 g246 := K01_trans K0 (by first | exact K01_fr rg246 (by decide) | (rcases eb233 with z | z <;> (subst z; exact K01_fr rg246 (by decide))) | (rcases eb233 with z | z <;> (subst z; exact K01_fr rg246 (by decide))))
      have K2 : K01 s0 g253 := K01_trans K1 (by first | exact K01_fr rg253 (by decide) | (rcases eb233 with z | z <;> (subst z; exact K01_fr rg253 (by decide))) | (rcases eb233 with z | z <;> (subst z; exact K01_fr rg253 (by decide))))
      exact K2
  · intro g v73_2 rg o1 o2 hI
    refine ⟨fun h3z => ?_, fun h3z => ?_⟩
    · skip
      refine ⟨fun h4z => ?_, fun h4z => ?_⟩
      · skip
        have K0 : K01 s0 g := hI
        exact K0
      · skip
        have K0 : K01 s0 g := hI
        exact K0
    · skip
      have K0 : K01 s0 g := hI
      exact K0
  · intro g v85_2 rg o1 o2 hI
    intro g8 rg8
    have K0 : K01 s0 g := hI
    have K1 : K01 s0 g8 := K01_trans K0 (by first | exact K01_fr rg8 (by decide))
    exact K1
  · intro g v99_2 v99_3 rg o1 o2 o3 o4 hI
    intro x15 o5 o6 g18 rg18
    refine ⟨fun h8z => ?_, fun h8z => ?_⟩
    · skip
      intro g26 rg26
      refine ⟨fun v g' => v = 1 → K01 g26 g', ?_, ?_⟩
      · skip
        exact w_1297_c4
      · skip
        intro x33 o10 o11 g36 rg36 qg36
        refine ⟨fun h14z => ?_, fun h14z => ?_⟩
        · skip
          refine ⟨fun h15z => ?_, fun h15z => ?_⟩
          · skip
            intro x45 o16 o17 g48 rg48
            refine ⟨fun h19z => ?_, fun h19z => ?_⟩
            · skip
              intro g56 rg56
              refine ⟨fun v g' => v = 1 → K01 g56 g', ?_, ?_⟩
              · skip
                exact w_1297_c4
              · skip
                intro x63 o21 o22 g66 rg66 qg66
                refine ⟨fun h25z => ?_, fun h25z => ?_⟩
                · skip
                  intro b69 eb69 eb69
                  refine ⟨fun h28z => ?_, fun h28z => ?_⟩
                  · skip
                    intro g79 rg79
                    intro x86 o30 o31 g89 rg89
                    refine ⟨fun h33z => ?_, fun h33z => ?_⟩
                    · skip
                      intro g97 rg97
                      intro z
                      have K0 : K01 s0 g := hI
                      have K1 : K01 s0 g18 := K01_trans K0 (by first | exact K01_fr rg18 (by decide) | (rcases eb69 with z | z <;> (subst z; exact K01_fr rg18 (by decide))) | (rcases eb69 with z | z <;> (subst z; exact K01_fr rg18 (by decide))))
                      have K2 : K01 s0 g26 := K01_trans K1 (by first | exact K01_fr rg26 (by decide) | (rcases eb69 with z | z <;> (subst z; exact K01_fr rg26 (by decide))) | (rcases eb69 with z | z <;> (subst z; exact K01_fr rg26 (by decide))))
                      have K3 : K01 s0 g36 := K01_trans K2 (qg36 (by omega))
                      have K4 : K01 s0 g48 := K01_trans K3 (by first | exact K01_fr rg48 (by decide) | (rcases eb69 with z | z <;> (subst z; exact K01_fr rg48 (by decide))) | (rcases eb69 with z | z <;> (subst z; exact K01_fr rg48 (by decide))))
                      have K5 : K01 s0 g56 := K01_trans K4 (by first | exact K01_fr rg56 (by decide) | (rcases eb69 with z | z <;> (subst z; exact K01_fr rg56 (by decide))) | (rcases eb69 with z | z <;> (subst z; exact K01_fr rg56 (by decide))))
                      have K6 : K01 s0 g66 := K01_trans K5 (qg66 (by omega))
                      have K7 : K01 s0 g79 := K01_trans K6 (by first | exact K01_fr rg79 (by decide) | (rcases eb69 with z | z <;> (subst z; exact K01_fr rg79 (by decide))) | (rcases eb69 with z | z <;> (subst z; exact K01_fr rg79 (by decide))))
                      have K8 : K01 s0 g89 := K01_trans K7 (by first | exact K01_fr rg89 (by decide) | (rcases eb69 with z | z <;> (subst z; exact K01_fr rg89 (by decide))) | (rcases eb69 with z | z <;> (subst z; exact K01_fr rg89 (by decide))))
                      have K9 : K01 s0 g97 := K01_trans K8 (by first | exact K01_fr rg97 (by decide) | (rcases eb69 with z | z <;> (subst z; exact K01_fr rg97 (by decide))) | (rcases eb69 with z | z <;> (subst z; exact K01_fr rg97 (by decide))))
                      exact K9
                    · skip
                      intro x104 o34 o35 g107 rg107
                      intro z
                      exfalso
                      omega
                  · skip
                    intro g114 rg114
                    intro x121 o30 o31 g124 rg124
                    refine ⟨fun h33z => ?_, fun h33z => ?_⟩
                    · skip
                      intro g132 rg132
                      intro z
                      have K0 : K01 s0 g := hI
                      have K1 : K01 s0 g18 := K01_trans K0 (by first | exact K01_fr rg18 (by decide) | (rcases eb69 with z | z <;> (subst z; exact K01_fr rg18 (by decide))) | (rcases eb69 with z | z <;> (subst z; exact K01_fr rg18 (by decide))))
                      have K2 : K01 s0 g26 := K01_trans K1 (by first | exact K01_fr rg26 (by decide) | (rcases eb69 with z | z <;> (subst z; exact K01_fr rg26 (by decide))) | (rcases eb69 with z | z <;> (subst z; exact K01_fr rg26 (by decide))))
                      have K3 : K01 s0 g36 := K01_trans K2 (qg36 (by omega))
                      have K4 : K01 s0 g48 := K01_trans K3 (by first | exact K01_fr rg48 (by decide) | (rcases eb69 with z | z <;> (subst z; exact K01_fr rg48 (by decide))) | (rcases eb69 with z | z <;> (subst z; exact K01_fr rg48 (by decide))))
                      have K5 : K01 s0 g56 := K01_trans K4 (by first | exact K01_fr rg56 (by decide) | (rcases eb69 with z | z <;> (subst z; exact K01_fr rg56 (by decide))) | (rcases eb69 with z | z <;> (subst z; exact K01_fr rg56 (by decide))))
                      have K6 : K01 s0 g66 := K01_trans K5 (qg66 (by omega))
                      have K7 : K01 s0 g114 := K01_trans K6 (by first | exact K01_fr rg114 (by decide) | (rcases eb69 with z | z <;> (subst z; exact K01_fr rg114 (by decide))) | (rcases eb69 with z | z <;> (subst z; exact K01_fr rg114 (by decide))))
                      have K8 : K01 s0 g124 := K01_trans K7 (by first | exact K01_fr rg124 (by decide) | (rcases eb69 with z | z <;> (subst z; exact K01_fr rg124 (by decide))) | (rcases eb69 with z | z <;> (subst z; exact K01_fr rg124 (by decide))))
                      have K9 : K01 s0 g132 := K01_trans K8 (by first | exact K01_fr rg132 (by decide) | (rcases eb69 with z | z <;> (subst z; exact K01_fr rg132 (by decide))) | (rcases eb69 with z | z <;> (subst z; exact K01_fr rg132 (by decide))))
                      exact K9
                    · skip
                      intro x139 o34 o35 g142 rg142
                      intro z
                      exfalso
                      omega
                · skip
                  intro z
                  exact absurd z (by decide)
            · skip
              intro x149 o20 o21 g152 rg152
              intro z
              exfalso
              omega
          · skip
            intro x159 o16 o17 g162 rg162
            refine ⟨fun h19z => ?_, fun h19z => ?_⟩
            · skip
              intro g170 rg170
              intro z
              have K0 : K01 s0 g := hI
              have K1 : K01 s0 g18 := K01_trans K0 (by first | exact K01_fr rg18 (by decide))
              have K2 : K01 s0 g26 := K01_trans K1 (by first | exact K01_fr rg26 (by decide))
              have K3 : K01 s0 g36 := K01_trans K2 (qg36 (by omega))
              have K4 : K01 s0 g162 := K01_trans K3 (by first | exact K01_fr rg162 (by decide))
              have K5 : K01 s0 g170 := K01_trans K4 (by first | exact K01_fr rg170 (by decide))
              exact K5
            · skip
              intro x177 o20 o21 g180 rg180
              intro z
              exfalso
              omega
        · skip
          intro z
          exact absurd z (by decide)
    · skip
      intro x187 o9 o10 g190 rg190
      intro z
      exfalso
      omega
set_option maxHeartbeats 4000000 in
theorem w_1297_c3 {s0 : zF} : p_1297_c3 s0 (fun v g => v = 1 → K01 s0 g) := by
  refine ⟨fun g v4_2 v4_3 => K01 s0 g, fun g v17_2 v17_3 v17_4 v17_5 => K01 s0 g, fun g v52_2 v52_3 v52_5 => K01 s0 g, fun g v95_2 v95_3 v95_5 s95_0 => K01 s0 g, fun g v115_2 v115_3 => K01 s0 g, fun g v130_3 => K01 s0 g, ?_, ?_, ?_, ?_, ?_, ?_, ?_⟩
  · skip
    have K0 : K01 s0 s0 := K01_refl
    exact K0
  · intro g v4_2 v4_3 rg o1 o2 o3 o4 hI
    refine ⟨fun h5z => ?_, fun h5z => ?_⟩
    · skip
      intro z
      have K0 : K01 s0 g := hI
      exact K0
    · skip
      have K0 : K01 s0 g := hI
      exact K0
  · intro g v17_2 v17_3 v17_4 v17_5 rg o1 o2 o3 o4 o5 o6 o7 hI
    refine ⟨fun h8z => ?_, fun h8z => ?_⟩
    · skip
      have K0 : K01 s0 g := hI
      exact K0
    · skip
      refine ⟨fun v g' => v = 1 → K01 g g', ?_, ?_⟩
      · skip
        exact w_1298_c3
      · skip
        intro x8 o9 o10 g11 rg11 qg11
        refine ⟨fun h13z => ?_, fun h13z => ?_⟩
        · skip
          refine ⟨fun h14z => ?_, fun h14z => ?_⟩
          · skip
            intro b15 eb15 eb15
            intro g24 rg24
            have K0 : K01 s0 g := hI
            have K1 : K01 s0 g11 := K01_trans K0 (qg11 (by omega))
            have K2 : K01 s0 g24 := K01_trans K1 (by first | exact K01_fr rg24 (by decide) | (rcases eb15 with z | z <;> (subst z; exact K01_fr rg24 (by decide))) | (rcases eb15 with z | z <;> (subst z; exact K01_fr rg24 (by decide))))
            exact K2
          · skip
            have K0 : K01 s0 g := hI
            have K1 : K01 s0 g11 := K01_trans K0 (qg11 (by omega))
            exact K1
        · skip
          intro z
          exact absurd z (by decide)
  · intro g v52_2 v52_3 v52_5 rg o1 o2 o3 o4 o5 hI
    intro x31 o6 o7 g34 rg34
    refine ⟨fun h9z => ?_, fun h9z => ?_⟩
    · skip
      have K0 : K01 s0 g := hI
      have K1 : K01 s0 g34 := K01_trans K0 (by first | exact K01_fr rg34 (by decide))
      exact K1
    · skip
      intro x42 o10 o11 g45 rg45
      refine ⟨fun h13z => ?_, fun h13z => ?_⟩
      · skip
        have K0 : K01 s0 g := hI
        have K1 : K01 s0 g34 := K01_trans K0 (by first | exact K01_fr rg34 (by decide))
        have K2 : K01 s0 g45 := K01_trans K1 (by first | exact K01_fr rg45 (by decide))
        exact K2
      · skip
        intro x53 o14 o15 g56 rg56
        refine ⟨fun h17z => ?_, fun h17z => ?_⟩
        · skip
          have K0 : K01 s0 g := hI
          have K1 : K01 s0 g34 := K01_trans K0 (by first | exact K01_fr rg34 (by decide))
          have K2 : K01 s0 g45 := K01_trans K1 (by first | exact K01_fr rg45 (by decide))
          have K3 : K01 s0 g56 := K01_trans K2 (by first | exact K01_fr rg56 (by decide))
          exact K3
        · skip
          have K0 : K01 s0 g := hI
          have K1 : K01 s0 g34 := K01_trans K0 (by first | exact K01_fr rg34 (by decide))
          have K2 : K01 s0 g45 := K01_trans K1 (by first | exact K01_fr rg45 (by decide))
          have K3 : K01 s0 g56 := K01_trans K2 (by first | exact K01_fr rg56 (by decide))
          exact K3
  · intro g v95_2 v95_3 v95_5 s95_0 rg o1 o2 o3 o4 o5 o6 o7 hI
    refine ⟨fun h8z => ?_, fun h8z => ?_⟩
    · skip
      intro g65 rg65 x67 ex67
      have K0 : K01 s0 g := hI
      have K1 : K01 s0 g65 := K01_trans K0 (by first | exact K01_fr rg65 (by decide))
      exact K1
    · skip
      have K0 : K01 s0 g := hI
      exact K0
  · intro g v115_2 v115_3 rg o1 o2 o3 hI
    refine ⟨fun h4z => ?_, fun h4z => ?_⟩
    · skip
      intro b70 eb70 eb70
      intro g79 rg79
      have K0 : K01 s0 g := hI
      have K1 : K01 s0 g79 := K01_trans K0 (by first | exact K01_fr rg79 (by decide) | (rcases eb70 with z | z <;> (subst z; exact K01_fr rg79 (by decide))) | (rcases eb70 with z | z <;> (subst z; exact K01_fr rg79 (by decide))))
      exact K1
    · skip
      have K0 : K01 s0 g := hI
      exact K0
  · intro g v130_3 rg o1 o2 hI
    intro x86 o3 o4 g89 rg89
    refine ⟨fun h6z => ?_, fun h6z => ?_⟩
    · skip
      intro g97 rg97 x99 ex99
      have K0 : K01 s0 g := hI
      have K1 : K01 s0 g89 := K01_trans K0 (by first | exact K01_fr rg89 (by decide))
      have K2 : K01 s0 g97 := K01_trans K1 (by first | exact K01_fr rg97 (by decide))
      exact K2
    · skip
      intro x106 o7 o8 g109 rg109
      refine ⟨fun h10z => ?_, fun h10z => ?_⟩
      · skip
        intro g117 rg117 x119 ex119
        have K0 : K01 s0 g := hI
        have K1 : K01 s0 g89 := K01_trans K0 (by first | exact K01_fr rg89 (by decide))
        have K2 : K01 s0 g109 := K01_trans K1 (by first | exact K01_fr rg109 (by decide))
        have K3 : K01 s0 g117 := K01_trans K2 (by first | exact K01_fr rg117 (by decide))
        exact K3
      · skip
        intro z
        have K0 : K01 s0 g := hI
        have K1 : K01 s0 g89 := K01_trans K0 (by first | exact K01_fr rg89 (by decide))
        have K2 : K01 s0 g109 := K01_trans K1 (by first | exact K01_fr rg109 (by decide))
        exact K2
set_option maxHeartbeats 4000000 in
theorem w_1298_c2 {s0 : zF} : p_1298_c2 s0 (fun v g => v = 1 → K01 s0 g) := by
  refine ⟨fun g v73_2 => K01 s0 g, fun g v85_2 => K01 s0 g, fun g v99_2 v99_3 => K01 s0 g, ?_, ?_, ?_, ?_⟩
  · skip
    intro x192 ex192 o2 o3 x199 ex199 o5 o6
    refine ⟨fun h7z => ?_, fun h7z => ?_⟩
    · skip
      intro x206 o8 o9 g209 rg209
      refine ⟨fun h11z => ?_, fun h11z => ?_⟩
      · skip
        refine ⟨fun h12z => ?_, fun h12z => ?_⟩
        · skip
          intro b213 eb213 eb213 x217 ex217
          intro g224 rg224
          intro g231 rg231
          intro z
          have K0 : K01 s0 s0 := K01_refl
          have K1 : K01 s0 g209 := K01_trans K0 (by first | exact K01_fr rg209 (by decide) | (rcases eb213 with z | z <;> (subst z; exact K01_fr rg209 (by decide))) | (rcases eb213 with z | z <;> (subst z; exact K01_fr rg209 (by decide))))
          have K2 : K01 s0 g224 := K01_trans K1 (by first | exact K01_fr rg224 (by decide) | (rcases eb213 with z | z <;> (subst z; exact K01_fr rg224 (by decide))) | (rcases eb213 with z | z <;> (subst z; exact K01_fr rg224 (by decide))))
          have K3 : K01 s0 g231 := K01_trans K2 (by first | exact K01_fr rg231 (by decide) | (rcases eb213 with z | z <;> (subst z; exact K01_fr rg231 (by decide))) | (rcases eb213 with z | z <;> (subst z; exact K01_fr rg231 (by decide))))
          exact K3
        · skip
          have K0 : K01 s0 s0 := K01_refl
          have K1 : K01 s0 g209 := K01_trans K0 (by first | exact K01_fr rg209 (by decide))
          exact K1
      · skip
        have K0 : K01 s0 s0 := K01_refl
        have K1 : K01 s0 g209 := K01_trans K0 (by first | exact K01_fr rg209 (by decide))
        exact K1
    · skip
      intro b233 eb233 eb233 x240 ex240
      intro g246 rg246
      intro g253 rg253
      intro z
      have K0 : K01 s0 s0 := K01_refl
      have K1 : K01 s0 g246 := K01_trans K0 (by first | exact K01_fr rg246 (by decide) | (rcases eb233 with z | z <;> (subst z; exact K01_fr rg246 (by decide))) | (rcases eb233 with z | z <;> (subst z; exact K01_fr rg246 (by decide))))
      have K2 : K01 s0 g253 := K01_trans K1 (by first | exact K01_fr rg253 (by decide) | (rcases eb233 with z | z <;> (subst z; exact K01_fr rg253 (by decide))) | (rcases eb233 with z | z <;> (subst z; exact K01_fr rg253 (by decide))))
      exact K2
  · intro g v73_2 rg o1 o2 hI
    refine ⟨fun h3z => ?_, fun h3z => ?_⟩
    · skip
      refine ⟨fun h4z => ?_, fun h4z => ?_⟩
      · skip
        have K0 : K01 s0 g := hI
        exact K0
      · skip
        have K0 : K01 s0 g := hI
        exact K0
    · skip
      have K0 : K01 s0 g := hI
      exact K0
  · intro g v85_2 rg o1 o2 hI
    intro g8 rg8
    have K0 : K01 s0 g := hI
    have K1 : K01 s0 g8 := K01_trans K0 (by first | exact K01_fr rg8 (by decide))
    exact K1
  · intro g v99_2 v99_3 rg o1 o2 o3 o4 hI
    intro x15 o5 o6 g18 rg18
    refine ⟨fun h8z => ?_, fun h8z => ?_⟩
    · skip
      intro g26 rg26
      refine ⟨fun v g' => v = 1 → K01 g26 g', ?_, ?_⟩
      · skip
        exact w_1297_c3
      · skip
        intro x33 o10 o11 g36 rg36 qg36
        refine ⟨fun h14z => ?_, fun h14z => ?_⟩
        · skip
          refine ⟨fun h15z => ?_, fun h15z => ?_⟩
          · skip
            intro x45 o16 o17 g48 rg48
            refine ⟨fun h19z => ?_, fun h19z => ?_⟩
            · skip
              intro g56 rg56
              refine ⟨fun v g' => v = 1 → K01 g56 g', ?_, ?_⟩
              · skip
                exact w_1297_c3
              · skip
                intro x63 o21 o22 g66 rg66 qg66
                refine ⟨fun h25z => ?_, fun h25z => ?_⟩
                · skip
                  intro b69 eb69 eb69
                  refine ⟨fun h28z => ?_, fun h28z => ?_⟩
                  · skip
                    intro g79 rg79
                    intro x86 o30 o31 g89 rg89
                    refine ⟨fun h33z => ?_, fun h33z => ?_⟩
                    · skip
                      intro g97 rg97
                      intro z
                      have K0 : K01 s0 g := hI
                      have K1 : K01 s0 g18 := K01_trans K0 (by first | exact K01_fr rg18 (by decide) | (rcases eb69 with z | z <;> (subst z; exact K01_fr rg18 (by decide))) | (rcases eb69 with z | z <;> (subst z; exact K01_fr rg18 (by decide))))
                      have K2 : K01 s0 g26 := K01_trans K1 (by first | exact K01_fr rg26 (by decide) | (rcases eb69 with z | z <;> (subst z; exact K01_fr rg26 (by decide))) | (rcases eb69 with z | z <;> (subst z; exact K01_fr rg26 (by decide))))
                      have K3 : K01 s0 g36 := K01_trans K2 (qg36 (by omega))
                      have K4 : K01 s0 g48 := K01_trans K3 (by first | exact K01_fr rg48 (by decide) | (rcases eb69 with z | z <;> (subst z; exact K01_fr rg48 (by decide))) | (rcases eb69 with z | z <;> (subst z; exact K01_fr rg48 (by decide))))
                      have K5 : K01 s0 g56 := K01_trans K4 (by first | exact K01_fr rg56 (by decide) | (rcases eb69 with z | z <;> (subst z; exact K01_fr rg56 (by decide))) | (rcases eb69 with z | z <;> (subst z; exact K01_fr rg56 (by decide))))
                      have K6 : K01 s0 g66 := K01_trans K5 (qg66 (by omega))
                      have K7 : K01 s0 g79 := K01_trans K6 (by first | exact K01_fr rg79 (by decide) | (rcases eb69 with z | z <;> (subst z; exact K01_fr rg79 (by decide))) | (rcases eb69 with z | z <;> (subst z; exact K01_fr rg79 (by decide))))
                      have K8 : K01 s0 g89 := K01_trans K7 (by first | exact K01_fr rg89 (by decide) | (rcases eb69 with z | z <;> (subst z; exact K01_fr rg89 (by decide))) | (rcases eb69 with z | z <;> (subst z; exact K01_fr rg89 (by decide))))
                      have K9 : K01 s0 g97 := K01_trans K8 (by first | exact K01_fr rg97 (by decide) | (rcases eb69 with z | z <;> (subst z; exact K01_fr rg97 (by decide))) | (rcases eb69 with z | z <;> (subst z; exact K01_fr rg97 (by decide))))
                      exact K9
                    · skip
                      intro x104 o34 o35 g107 rg107
                      intro z
                      exfalso
                      omega
                  · skip
                    intro g114 rg114
                    intro x121 o30 o31 g124 rg124
                    refine ⟨fun h33z => ?_, fun h33z => ?_⟩
                    · skip
                      intro g132 rg132
                      intro z
                      have K0 : K01 s0 g := hI
                      have K1 : K01 s0 g18 := K01_trans K0 (by first | exact K01_fr rg18 (by decide) | (rcases eb69 with z | z <;> (subst z; exact K01_fr rg18 (by decide))) | (rcases eb69 with z | z <;> (subst z; exact K01_fr rg18 (by decide))))
                      have K2 : K01 s0 g26 := K01_trans K1 (by first | exact K01_fr rg26 (by decide) | (rcases eb69 with z | z <;> (subst z; exact K01_fr rg26 (by decide))) | (rcases eb69 with z | z <;> (subst z; exact K01_fr rg26 (by decide))))
                      have K3 : K01 s0 g36 := K01_trans K2 (qg36 (by omega))
                      have K4 : K01 s0 g48 := K01_trans K3 (by first | exact K01_fr rg48 (by decide) | (rcases eb69 with z | z <;> (subst z; exact K01_fr rg48 (by decide))) | (rcases eb69 with z | z <;> (subst z; exact K01_fr rg48 (by decide))))
                      have K5 : K01 s0 g56 := K01_trans K4 (by first | exact K01_fr rg56 (by decide) | (rcases eb69 with z | z <;> (subst z; exact K01_fr rg56 (by decide))) | (rcases eb69 with z | z <;> (subst z; exact K01_fr rg56 (by decide))))
                      have K6 : K01 s0 g66 := K01_trans K5 (qg66 (by omega))
                      have K7 : K01 s0 g114 := K01_trans K6 (by first | exact K01_fr rg114 (by decide) | (rcases eb69 with z | z <;> (subst z; exact K01_fr rg114 (by decide))) | (rcases eb69 with z | z <;> (subst z; exact K01_fr rg114 (by decide))))
                      have K8 : K01 s0 g124 := K01_trans K7 (by first | exact K01_fr rg124 (by decide) | (rcases eb69 with z | z <;> (subst z; exact K01_fr rg124 (by decide))) | (rcases eb69 with z | z <;> (subst z; exact K01_fr rg124 (by decide))))
                      have K9 : K01 s0 g132 := K01_trans K8 (by first | exact K01_fr rg132 (by decide) | (rcases eb69 with z | z <;> (subst z; exact K01_fr rg132 (by decide))) | (rcases eb69 with z | z <;> (subst z; exact K01_fr rg132 (by decide))))
                      exact K9
                    · skip
                      intro x139 o34 o35 g142 rg142
                      intro z
                      exfalso
                      omega
                · skip
                  intro z
                  exact absurd z (by decide)
            · skip
              intro x149 o20 o21 g152 rg152
              intro z
              exfalso
              omega
          · skip
            intro x159 o16 o17 g162 rg162
            refine ⟨fun h19z => ?_, fun h19z => ?_⟩
            · skip
              intro g170 rg170
              intro z
              have K0 : K01 s0 g := hI
              have K1 : K01 s0 g18 := K01_trans K0 (by first | exact K01_fr rg18 (by decide))
              have K2 : K01 s0 g26 := K01_trans K1 (by first | exact K01_fr rg26 (by decide))
              have K3 : K01 s0 g36 := K01_trans K2 (qg36 (by omega))
              have K4 : K01 s0 g162 := K01_trans K3 (by first | exact K01_fr rg162 (by decide))
              have K5 : K01 s0 g170 := K01_trans K4 (by first | exact K01_fr rg170 (by decide))
              exact K5
            · skip
              intro x177 o20 o21 g180 rg180
              intro z
              exfalso
              omega
        · skip
          intro z
          exact absurd z (by decide)
    · skip
      intro x187 o9 o10 g190 rg190
      intro z
      exfalso
      omega
set_option maxHeartbeats 4000000 in
theorem w_1297_c2 {s0 : zF} : p_1297_c2 s0 (fun v g => v = 1 → K01 s0 g) := by
  refine ⟨fun g v4_2 v4_3 => K01 s0 g, fun g v17_2 v17_3 v17_4 v17_5 => K01 s0 g, fun g v52_2 v52_3 v52_5 => K01 s0 g, fun g v95_2 v95_3 v95_5 s95_0 => K01 s0 g, fun g v115_2 v115_3 => K01 s0 g, fun g v130_3 => K01 s0 g, ?_, ?_, ?_, ?_, ?_, ?_, ?_⟩
  · skip
    have K0 : K01 s0 s0 := K01_refl
    exact K0
  · intro g v4_2 v4_3 rg o1 o2 o3 o4 hI
    refine ⟨fun h5z => ?_, fun h5z => ?_⟩
    · skip
      intro z
      have K0 : K01 s0 g := hI
      exact K0
    · skip
      have K0 : K01 s0 g := hI
      exact K0
  · intro g v17_2 v17_3 v17_4 v17_5 rg o1 o2 o3 o4 o5 o6 o7 hI
    refine ⟨fun h8z => ?_, fun h8z => ?_⟩
    · skip
      have K0 : K01 s0 g := hI
      exact K0
    · skip
      refine ⟨fun v g' => v = 1 → K01 g g', ?_, ?_⟩
      · skip
        exact w_1298_c2
      · skip
        intro x8 o9 o10 g11 rg11 qg11
        refine ⟨fun h13z => ?_, fun h13z => ?_⟩
        · skip
          refine ⟨fun h14z => ?_, fun h14z => ?_⟩
          · skip
            intro b15 eb15 eb15
            intro g24 rg24
            have K0 : K01 s0 g := hI
            have K1 : K01 s0 g11 := K01_trans K0 (qg11 (by omega))
            have K2 : K01 s0 g24 := K01_trans K1 (by first | exact K01_fr rg24 (by decide) | (rcases eb15 with z | z <;> (subst z; exact K01_fr rg24 (by decide))) | (rcases eb15 with z | z <;> (subst z; exact K01_fr rg24 (by decide))))
            exact K2
          · skip
            have K0 : K01 s0 g := hI
            have K1 : K01 s0 g11 := K01_trans K0 (qg11 (by omega))
            exact K1
        · skip
          intro z
          exact absurd z (by decide)
  · intro g v52_2 v52_3 v52_5 rg o1 o2 o3 o4 o5 hI
    intro x31 o6 o7 g34 rg34
    refine ⟨fun h9z => ?_, fun h9z => ?_⟩
    · skip
      have K0 : K01 s0 g := hI
      have K1 : K01 s0 g34 := K01_trans K0 (by first | exact K01_fr rg34 (by decide))
      exact K1
    · skip
      intro x42 o10 o11 g45 rg45
      refine ⟨fun h13z => ?_, fun h13z => ?_⟩
      · skip
        have K0 : K01 s0 g := hI
        have K1 : K01 s0 g34 := K01_trans K0 (by first | exact K01_fr rg34 (by decide))
        have K2 : K01 s0 g45 := K01_trans K1 (by first | exact K01_fr rg45 (by decide))
        exact K2
      · skip
        intro x53 o14 o15 g56 rg56
        refine ⟨fun h17z => ?_, fun h17z => ?_⟩
        · skip
          have K0 : K01 s0 g := hI
          have K1 : K01 s0 g34 := K01_trans K0 (by first | exact K01_fr rg34 (by decide))
          have K2 : K01 s0 g45 := K01_trans K1 (by first | exact K01_fr rg45 (by decide))
          have K3 : K01 s0 g56 := K01_trans K2 (by first | exact K01_fr rg56 (by decide))
          exact K3
        · skip
          have K0 : K01 s0 g := hI
          have K1 : K01 s0 g34 := K01_trans K0 (by first | exact K01_fr rg34 (by decide))
          have K2 : K01 s0 g45 := K01_trans K1 (by first | exact K01_fr rg45 (by decide))
          have K3 : K01 s0 g56 := K01_trans K2 (by first | exact K01_fr rg56 (by decide))
          exact K3
  · intro g v95_2 v95_3 v95_5 s95_0 rg o1 o2 o3 o4 o5 o6 o7 hI
    refine ⟨fun h8z => ?_, fun h8z => ?_⟩
    · skip
      intro g65 rg65 x67 ex67
      have K0 : K01 s0 g := hI
      have K1 : K01 s0 g65 := K01_trans K0 (by first | exact K01_fr rg65 (by decide))
      exact K1
    · skip
      have K0 : K01 s0 g := hI
      exact K0
  · intro g v115_2 v115_3 rg o1 o2 o3 hI
    refine ⟨fun h4z => ?_, fun h4z => ?_⟩
    · skip
      intro b70 eb70 eb70
      intro g79 rg79
      have K0 : K01 s0 g := hI
      have K1 : K01 s0 g79 := K01_trans K0 (by first | exact K01_fr rg79 (by decide) | (rcases eb70 with z | z <;> (subst z; exact K01_fr rg79 (by decide))) | (rcases eb70 with z | z <;> (subst z; exact K01_fr rg79 (by decide))))
      exact K1
    · skip
      have K0 : K01 s0 g := hI
      exact K0
  · intro g v130_3 rg o1 o2 hI
    intro x86 o3 o4 g89 rg89
    refine ⟨fun h6z => ?_, fun h6z => ?_⟩
    · skip
      intro g97 rg97 x99 ex99
      have K0 : K01 s0 g := hI
      have K1 : K01 s0 g89 := K01_trans K0 (by first | exact K01_fr rg89 (by decide))
      have K2 : K01 s0 g97 := K01_trans K1 (by first | exact K01_fr rg97 (by decide))
      exact K2
    · skip
      intro x106 o7 o8 g109 rg109
      refine ⟨fun h10z => ?_, fun h10z => ?_⟩
      · skip
        intro g117 rg117 x119 ex119
        have K0 : K01 s0 g := hI
        have K1 : K01 s0 g89 := K01_trans K0 (by first | exact K01_fr rg89 (by decide))
        have K2 : K01 s0 g109 := K01_trans K1 (by first | exact K01_fr rg109 (by decide))
        have K3 : K01 s0 g117 := K01_trans K2 (by first | exact K01_fr rg117 (by decide))
        exact K3
      · skip
        intro z
        have K0 : K01 s0 g := hI
        have K1 : K01 s0 g89 := K01_trans K0 (by first | exact K01_fr rg89 (by decide))
        have K2 : K01 s0 g109 := K01_trans K1 (by first | exact K01_fr rg109 (by decide))
        exact K2
set_option maxHeartbeats 4000000 in
theorem w_1298_c1 {s0 : zF} : p_1298_c1 s0 (fun v g => v = 1 → K01 s0 g) := by
  refine ⟨fun g v73_2 => K01 s0 g, fun g v85_2 => K01 s0 g, fun g v99_2 v99_3 => K01 s0 g, ?_, ?_, ?_, ?_⟩
  · skip
    intro x192 ex192 o2 o3 x199 ex199 o5 o6
    refine ⟨fun h7z => ?_, fun h7z => ?_⟩
    · skip
      intro x206 o8 o9 g209 rg209
      refine ⟨fun h11z => ?_, fun h11z => ?_⟩
      · skip
        refine ⟨fun h12z => ?_, fun h12z => ?_⟩
        · skip
          intro b213 eb213 eb213 x217 ex217
          intro g224 rg224
          intro g231 rg231
          intro z
          have K0 : K01 s0 s0 := K01_refl
          have K1 : K01 s0 g209 := K01_trans K0 (by first | exact K01_fr rg209 (by decide) | (rcases eb213 with z | z <;> (subst z; exact K01_fr rg209 (by decide))) | (rcases eb213 with z | z <;> (subst z; exact K01_fr rg209 (by decide))))
          have K2 : K01 s0 g224 := K01_trans K1 (by first | exact K01_fr rg224 (by decide) | (rcases eb213 with z | z <;> (subst z; exact K01_fr rg224 (by decide))) | (rcases eb213 with z | z <;> (subst z; exact K01_fr rg224 (by decide))))
          have K3 : K01 s0 g231 := K01_trans K2 (by first | exact K01_fr rg231 (by decide) | (rcases eb213 with z | z <;> (subst z; exact K01_fr rg231 (by decide))) | (rcases eb213 with z | z <;> (subst z; exact K01_fr rg231 (by decide))))
          exact K3
        · skip
          have K0 : K01 s0 s0 := K01_refl
          have K1 : K01 s0 g209 := K01_trans K0 (by first | exact K01_fr rg209 (by decide))
          exact K1
      · skip
        have K0 : K01 s0 s0 := K01_refl
        have K1 : K01 s0 g209 := K01_trans K0 (by first | exact K01_fr rg209 (by decide))
        exact K1
    · skip
      intro b233 eb233 eb233 x240 ex240
      intro g246 rg246
      intro g253 rg253
      intro z
      have K0 : K01 s0 s0 := K01_refl
      have K1 : K01 s0 g246 := K01_trans K0 (by first | exact K01_fr rg246 (by decide) | (rcases eb233 with z | z <;> (subst z; exact K01_fr rg246 (by decide))) | (rcases eb233 with z | z <;> (subst z; exact K01_fr rg246 (by decide))))
      have K2 : K01 s0 g253 := K01_trans K1 (by first | exact K01_fr rg253 (by decide) | (rcases eb233 with z | z <;> (subst z; exact K01_fr rg253 (by decide))) | (rcases eb233 with z | z <;> (subst z; exact K01_fr rg253 (by decide))))
      exact K2
  · intro g v73_2 rg o1 o2 hI
    refine ⟨fun h3z => ?_, fun h3z => ?_⟩
    · skip
      refine ⟨fun h4z => ?_, fun h4z => ?_⟩
      · skip
        have K0 : K01 s0 g := hI
        exact K0
      · skip
        have K0 : K01 s0 g := hI
        exact K0
    · skip
      have K0 : K01 s0 g := hI
      exact K0
  · intro g v85_2 rg o1 o2 hI
    intro g8 rg8
    have K0 : K01 s0 g := hI
    have K1 : K01 s0 g8 := K01_trans K0 (by first | exact K01_fr rg8 (by decide))
    exact K1
  · intro g v99_2 v99_3 rg o1 o2 o3 o4 hI
    intro x15 o5 o6 g18 rg18
    refine ⟨fun h8z => ?_, fun h8z => ?_⟩
    · skip
      intro g26 rg26
      refine ⟨fun v g' => v = 1 → K01 g26 g', ?_, ?_⟩
      · skip
        exact w_1297_c2
      · skip
        intro x33 o10 o11 g36 rg36 qg36
        refine ⟨fun h14z => ?_, fun h14z => ?_⟩
        · skip
          refine ⟨fun h15z => ?_, fun h15z => ?_⟩
          · skip
            intro x45 o16 o17 g48 rg48
            refine ⟨fun h19z => ?_, fun h19z => ?_⟩
            · skip
              intro g56 rg56
              refine ⟨fun v g' => v = 1 → K01 g56 g', ?_, ?_⟩
              · skip
                exact w_1297_c2
              · skip
                intro x63 o21 o22 g66 rg66 qg66
                refine ⟨fun h25z => ?_, fun h25z => ?_⟩
                · skip
                  intro b69 eb69 eb69
                  refine ⟨fun h28z => ?_, fun h28z => ?_⟩
                  · skip
                    intro g79 rg79
                    intro x86 o30 o31 g89 rg89
                    refine ⟨fun h33z => ?_, fun h33z => ?_⟩
                    · skip
                      intro g97 rg97
                      intro z
                      have K0 : K01 s0 g := hI
                      have K1 : K01 s0 g18 := K01_trans K0 (by first | exact K01_fr rg18 (by decide) | (rcases eb69 with z | z <;> (subst z; exact K01_fr rg18 (by decide))) | (rcases eb69 with z | z <;> (subst z; exact K01_fr rg18 (by decide))))
                      have K2 : K01 s0 g26 := K01_trans K1 (by first | exact K01_fr rg26 (by decide) | (rcases eb69 with z | z <;> (subst z; exact K01_fr rg26 (by decide))) | (rcases eb69 with z | z <;> (subst z; exact K01_fr rg26 (by decide))))
                      have K3 : K01 s0 g36 := K01_trans K2 (qg36 (by omega))
                      have K4 : K01 s0 g48 := K01_trans K3 (by first | exact K01_fr rg48 (by decide) | (rcases eb69 with z | z <;> (subst z; exact K01_fr rg48 (by decide))) | (rcases eb69 with z | z <;> (subst z; exact K01_fr rg48 (by decide))))
                      have K5 : K01 s0 g56 := K01_trans K4 (by first | exact K01_fr rg56 (by decide) | (rcases eb69 with z | z <;> (subst z; exact K01_fr rg56 (by decide))) | (rcases eb69 with z | z <;> (subst z; exact K01_fr rg56 (by decide))))
                      have K6 : K01 s0 g66 := K01_trans K5 (qg66 (by omega))
                      have K7 : K01 s0 g79 := K01_trans K6 (by first | exact K01_fr rg79 (by decide) | (rcases eb69 with z | z <;> (subst z; exact K01_fr rg79 (by decide))) | (rcases eb69 with z | z <;> (subst z; exact K01_fr rg79 (by decide))))
                      have K8 : K01 s0 g89 := K01_trans K7 (by first | exact K01_fr rg89 (by decide) | (rcases eb69 with z | z <;> (subst z; exact K01_fr rg89 (by decide))) | (rcases eb69 with z | z <;> (subst z; exact K01_fr rg89 (by decide))))
                      have K9 : K01 s0 g97 := K01_trans K8 (by first | exact K01_fr rg97 (by decide) | (rcases eb69 with z | z <;> (subst z; exact K01_fr rg97 (by decide))) | (rcases eb69 with z | z <;> (subst z; exact K01_fr rg97 (by decide))))
                      exact K9
                    · skip
                      intro x104 o34 o35 g107 rg107
                      intro z
                      exfalso
                      omega
                  · skip
                    intro g114 rg114
                    intro x121 o30 o31 g124 rg124
                    refine ⟨fun h33z => ?_, fun h33z => ?_⟩
                    · skip
                      intro g132 rg132
                      intro z
                      have K0 : K01 s0 g := hI
                      have K1 : K01 s0 g18 := K01_trans K0 (by first | exact K01_fr rg18 (by decide) | (rcases eb69 with z | z <;> (subst z; exact K01_fr rg18 (by decide))) | (rcases eb69 with z | z <;> (subst z; exact K01_fr rg18 (by decide))))
                      have K2 : K01 s0 g26 := K01_trans K1 (by first | exact K01_fr rg26 (by decide) | (rcases eb69 with z | z <;> (subst z; exact K01_fr rg26 (by decide))) | (rcases eb69 with z | z <;> (subst z; exact K01_fr rg26 (by decide))))
                      have K3 : K01 s0 g36 := K01_trans K2 (qg36 (by omega))
                      have K4 : K01 s0 g48 := K01_trans K3 (by first | exact K01_fr rg48 (by decide) | (rcases eb69 with z | z <;> (subst z; exact K01_fr rg48 (by decide))) | (rcases eb69 with z | z <;> (subst z; exact K01_fr rg48 (by decide))))
                      have K5 : K01 s0 g56 := K01_trans K4 (by first | exact K01_fr rg56 (by decide) | (rcases eb69 with z | z <;> (subst z; exact K01_fr rg56 (by decide))) | (rcases eb69 with z | z <;> (subst z; exact K01_fr rg56 (by decide))))
                      have K6 : K01 s0 g66 := K01_trans K5 (qg66 (by omega))
                      have K7 : K01 s0 g114 := K01_trans K6 (by first | exact K01_fr rg114 (by decide) | (rcases eb69 with z | z <;> (subst z; exact K01_fr rg114 (by decide))) | (rcases eb69 with z | z <;> (subst z; exact K01_fr rg114 (by decide))))
                      have K8 : K01 s0 g124 := K01_trans K7 (by first | exact K01_fr rg124 (by decide) | (rcases eb69 with z | z <;> (subst z; exact K01_fr rg124 (by decide))) | (rcases eb69 with z | z <;> (subst z; exact K01_fr rg124 (by decide))))
                      have K9 : K01 s0 g132 := K01_trans K8 (by first | exact K01_fr rg132 (by decide) | (rcases eb69 with z | z <;> (subst z; exact K01_fr rg132 (by decide))) | (rcases eb69 with z | z <;> (subst z; exact K01_fr rg132 (by decide))))
                      exact K9
                    · skip
                      intro x139 o34 o35 g142 rg142
                      intro z
                      exfalso
                      omega
                · skip
                  intro z
                  exact absurd z (by decide)
            · skip
              intro x149 o20 o21 g152 rg152
              intro z
              exfalso
              omega
          · skip
            intro x159 o16 o17 g162 rg162
            refine ⟨fun h19z => ?_, fun h19z => ?_⟩
            · skip
              intro g170 rg170
              intro z
              have K0 : K01 s0 g := hI
              have K1 : K01 s0 g18 := K01_trans K0 (by first | exact K01_fr rg18 (by decide))
              have K2 : K01 s0 g26 := K01_trans K1 (by first | exact K01_fr rg26 (by decide))
              have K3 : K01 s0 g36 := K01_trans K2 (qg36 (by omega))
              have K4 : K01 s0 g162 := K01_trans K3 (by first | exact K01_fr rg162 (by decide))
              have K5 : K01 s0 g170 := K01_trans K4 (by first | exact K01_fr rg170 (by decide))
              exact K5
            · skip
              intro x177 o20 o21 g180 rg180
              intro z
              exfalso
              omega
        · skip
          intro z
          exact absurd z (by decide)
    · skip
      intro x187 o9 o10 g190 rg190
      intro z
      exfalso
      omega
set_option maxHeartbeats 4000000 in
theorem w_1297_c1 {s0 : zF} : p_1297_c1 s0 (fun v g => v = 1 → K01 s0 g) := by
  refine ⟨fun g v4_2 v4_3 => K01 s0 g, fun g v17_2 v17_3 v17_4 v17_5 => K01 s0 g, fun g v52_2 v52_3 v52_5 => K01 s0 g, fun g v95_2 v95_3 v95_5 s95_0 => K01 s0 g, fun g v115_2 v115_3 => K01 s0 g, fun g v130_3 => K01 s0 g, ?_, ?_, ?_, ?_, ?_, ?_, ?_⟩
  · skip
    have K0 : K01 s0 s0 := K01_refl
    exact K0
  · intro g v4_2 v4_3 rg o1 o2 o3 o4 hI
    refine ⟨fun h5z => ?_, fun h5z => ?_⟩
    · skip
      intro z
      have K0 : K01 s0 g := hI
      exact K0
    · skip
      have K0 : K01 s0 g := hI
      exact K0
  · intro g v17_2 v17_3 v17_4 v17_5 rg o1 o2 o3 o4 o5 o6 o7 hI
    refine ⟨fun h8z => ?_, fun h8z => ?_⟩
    · skip
      have K0 : K01 s0 g := hI
      exact K0
    · skip
      refine ⟨fun v g' => v = 1 → K01 g g', ?_, ?_⟩
      · skip
        exact w_1298_c1
      · skip
        intro x8 o9 o10 g11 rg11 qg11
        refine ⟨fun h13z => ?_, fun h13z => ?_⟩
        · skip
          refine ⟨fun h14z => ?_, fun h14z => ?_⟩
          · skip
            intro b15 eb15 eb15
            intro g24 rg24
            have K0 : K01 s0 g := hI
            have K1 : K01 s0 g11 := K01_trans K0 (qg11 (by omega))
            have K2 : K01 s0 g24 := K01_trans K1 (by first | exact K01_fr rg24 (by decide) | (rcases eb15 with z | z <;> (subst z; exact K01_fr rg24 (by decide))) | (rcases eb15 with z | z <;> (subst z; exact K01_fr rg24 (by decide))))
            exact K2
          · skip
            have K0 : K01 s0 g := hI
            have K1 : K01 s0 g11 := K01_trans K0 (qg11 (by omega))
            exact K1
        · skip
          intro z
          exact absurd z (by decide)
  · intro g v52_2 v52_3 v52_5 rg o1 o2 o3 o4 o5 hI
    intro x31 o6 o7 g34 rg34
    refine ⟨fun h9z => ?_, fun h9z => ?_⟩
    · skip
      have K0 : K01 s0 g := hI
      have K1 : K01 s0 g34 := K01_trans K0 (by first | exact K01_fr rg34 (by decide))
      exact K1
    · skip
      intro x42 o10 o11 g45 rg45
      refine ⟨fun h13z => ?_, fun h13z => ?_⟩
      · skip
        have K0 : K01 s0 g := hI
        have K1 : K01 s0 g34 := K01_trans K0 (by first | exact K01_fr rg34 (by decide))
        have K2 : K01 s0 g45 := K01_trans K1 (by first | exact K01_fr rg45 (by decide))
        exact K2
      · skip
        intro x53 o14 o15 g56 rg56
        refine ⟨fun h17z => ?_, fun h17z => ?_⟩
        · skip
          have K0 : K01 s0 g := hI
          have K1 : K01 s0 g34 := K01_trans K0 (by first | exact K01_fr rg34 (by decide))
          have K2 : K01 s0 g45 := K01_trans K1 (by first | exact K01_fr rg45 (by decide))
          have K3 : K01 s0 g56 := K01_trans K2 (by first | exact K01_fr rg56 (by decide))
          exact K3
        · skip
          have K0 : K01 s0 g := hI
          have K1 : K01 s0 g34 := K01_trans K0 (by first | exact K01_fr rg34 (by decide))
          have K2 : K01 s0 g45 := K01_trans K1 (by first | exact K01_fr rg45 (by decide))
          have K3 : K01 s0 g56 := K01_trans K2 (by first | exact K01_fr rg56 (by decide))
          exact K3
  · intro g v95_2 v95_3 v95_5 s95_0 rg o1 o2 o3 o4 o5 o6 o7 hI
    refine ⟨fun h8z => ?_, fun h8z => ?_⟩
    · skip
      intro g65 rg65 x67 ex67
      have K0 : K01 s0 g := hI
      have K1 : K01 s0 g65 := K01_trans K0 (by first | exact K01_fr rg65 (by decide))
      exact K1
    · skip
      have K0 : K01 s0 g := hI
      exact K0
  · intro g v115_2 v115_3 rg o1 o2 o3 hI
    refine ⟨fun h4z => ?_, fun h4z => ?_⟩
    · skip
      intro b70 eb70 eb70
      intro g79 rg79
      have K0 : K01 s0 g := hI
      have K1 : K01 s0 g79 := K01_trans K0 (by first | exact K01_fr rg79 (by decide) | (rcases eb70 with z | z <;> (subst z; exact K01_fr rg79 (by decide))) | (rcases eb70 with z | z <;> (subst z; exact K01_fr rg79 (by decide))))
      exact K1
    · skip
      have K0 : K01 s0 g := hI
      exact K0
  · intro g v130_3 rg o1 o2 hI
    intro x86 o3 o4 g89 rg89
    refine ⟨fun h6z => ?_, fun h6z => ?_⟩
    · skip
      intro g97 rg97 x99 ex99
      have K0 : K01 s0 g := hI
      have K1 : K01 s0 g89 := K01_trans K0 (by first | exact K01_fr rg89 (by decide))
      have K2 : K01 s0 g97 := K01_trans K1 (by first | exact K01_fr rg97 (by decide))
      exact K2
    · skip
      intro x106 o7 o8 g109 rg109
      refine ⟨fun h10z => ?_, fun h10z => ?_⟩
      · skip
        intro g117 rg117 x119 ex119
        have K0 : K01 s0 g := hI
        have K1 : K01 s0 g89 := K01_trans K0 (by first | exact K01_fr rg89 (by decide))
        have K2 : K01 s0 g109 := K01_trans K1 (by first | exact K01_fr rg109 (by decide))
        have K3 : K01 s0 g117 := K01_trans K2 (by first | exact K01_fr rg117 (by decide))
        exact K3
      · skip
        intro z
        have K0 : K01 s0 g := hI
        have K1 : K01 s0 g89 := K01_trans K0 (by first | exact K01_fr rg89 (by decide))
        have K2 : K01 s0 g109 := K01_trans K1 (by first | exact K01_fr rg109 (by decide))
        exact K2
set_option maxHeartbeats 4000000 in
theorem w_1298_c0 {s0 : zF} : p_1298_c0 s0 (fun v g => v = 1 → K01 s0 g) := by
  refine ⟨fun g v73_2 => K01 s0 g, fun g v85_2 => K01 s0 g, fun g v99_2 v99_3 => K01 s0 g, ?_, ?_, ?_, ?_⟩
  · skip
    intro x192 ex192 o2 o3 x199 ex199 o5 o6
    refine ⟨fun h7z => ?_, fun h7z => ?_⟩
    · skip
      intro x206 o8 o9 g209 rg209
      refine ⟨fun h11z => ?_, fun h11z => ?_⟩
      · skip
        refine ⟨fun h12z => ?_, fun h12z => ?_⟩
        · skip
          intro b213 eb213 eb213 x217 ex217
          intro g224 rg224
          intro g231 rg231
          intro z
          have K0 : K01 s0 s0 := K01_refl
          have K1 : K01 s0 g209 := K01_trans K0 (by first | exact K01_fr rg209 (by decide) | (rcases eb213 with z | z <;> (subst z; exact K01_fr rg209 (by decide))) | (rcases eb213 with z | z <;> (subst z; exact K01_fr rg209 (by decide))))
          have K2 : K01 s0 g224 := K01_trans K1 (by first | exact K01_fr rg224 (by decide) | (rcases eb213 with z | z <;> (subst z; exact K01_fr rg224 (by decide))) | (rcases eb213 with z | z <;> (subst z; exact K01_fr rg224 (by decide))))
          have K3 : K01 s0 g231 := K01_trans K2 (by first | exact K01_fr rg231 (by decide) | (rcases eb213 with z | z <;> (subst z; exact K01_fr rg231 (by decide))) | (rcases eb213 with z | z <;> (subst z; exact K01_fr rg231 (by decide))))
          exact K3
        · skip
          have K0 : K01 s0 s0 := K01_refl
          have K1 : K01 s0 g209 := K01_trans K0 (by first | exact K01_fr rg209 (by decide))
          exact K1
      · skip
        have K0 : K01 s0 s0 := K01_refl
        have K1 : K01 s0 g209 := K01_trans K0 (by first | exact K01_fr rg209 (by decide))
        exact K1
    · skip
      intro b233 eb233 eb233 x240 ex240
      intro g246 rg246
      intro g253 rg253
      intro z
      have K0 : K01 s0 s0 := K01_refl
      have K1 : K01 s0 g246 := K01_trans K0 (by first | exact K01_fr rg246 (by decide) | (rcases eb233 with z | z <;> (subst z; exact K01_fr rg246 (by decide))) | (rcases eb233 with z | z <;> (subst z; exact K01_fr rg246 (by decide))))
      have K2 : K01 s0 g253 := K01_trans K1 (by first | exact K01_fr rg253 (by decide) | (rcases eb233 with z | z <;> (subst z; exact K01_fr rg253 (by decide))) | (rcases eb233 with z | z <;> (subst z; exact K01_fr rg253 (by decide))))
      exact K2
  · intro g v73_2 rg o1 o2 hI
    refine ⟨fun h3z => ?_, fun h3z => ?_⟩
    · skip
      refine ⟨fun h4z => ?_, fun h4z => ?_⟩
      · skip
        have K0 : K01 s0 g := hI
        exact K0
      · skip
        have K0 : K01 s0 g := hI
        exact K0
    · skip
      have K0 : K01 s0 g := hI
      exact K0
  · intro g v85_2 rg o1 o2 hI
    intro g8 rg8
    have K0 : K01 s0 g := hI
    have K1 : K01 s0 g8 := K01_trans K0 (by first | exact K01_fr rg8 (by decide))
    exact K1
  · intro g v99_2 v99_3 rg o1 o2 o3 o4 hI
    intro x15 o5 o6 g18 rg18
    refine ⟨fun h8z => ?_, fun h8z => ?_⟩
    · skip
      intro g26 rg26
      refine ⟨fun v g' => v = 1 → K01 g26 g', ?_, ?_⟩
      · skip
        exact w_1297_c1
      · skip
        intro x33 o10 o11 g36 rg36 qg36
        refine ⟨fun h14z => ?_, fun h14z => ?_⟩
        · skip
          refine ⟨fun h15z => ?_, fun h15z => ?_⟩
          · skip
            intro x45 o16 o17 g48 rg48
            refine ⟨fun h19z => ?_, fun h19z => ?_⟩
            · skip
              intro g56 rg56
              refine ⟨fun v g' => v = 1 → K01 g56 g', ?_, ?_⟩
              · skip
                exact w_1297_c1
              · skip
                intro x63 o21 o22 g66 rg66 qg66
                refine ⟨fun h25z => ?_, fun h25z => ?_⟩
                · skip
                  intro b69 eb69 eb69
                  refine ⟨fun h28z => ?_, fun h28z => ?_⟩
                  · skip
                    intro g79 rg79
                    intro x86 o30 o31 g89 rg89
                    refine ⟨fun h33z => ?_, fun h33z => ?_⟩
                    · skip
                      intro g97 rg97
                      intro z
                      have K0 : K01 s0 g := hI
                      have K1 : K01 s0 g18 := K01_trans K0 (by first | exact K01_fr rg18 (by decide) | (rcases eb69 with z | z <;> (subst z; exact K01_fr rg18 (by decide))) | (rcases eb69 with z | z <;> (subst z; exact K01_fr rg18 (by decide))))
                      have K2 : K01 s0 g26 := K01_trans K1 (by first | exact K01_fr rg26 (by decide) | (rcases eb69 with z | z <;> (subst z; exact K01_fr rg26 (by decide))) | (rcases eb69 with z | z <;> (subst z; exact K01_fr rg26 (by decide))))
                      have K3 : K01 s0 g36 := K01_trans K2 (qg36 (by omega))
                      have K4 : K01 s0 g48 := K01_trans K3 (by first | exact K01_fr rg48 (by decide) | (rcases eb69 with z | z <;> (subst z; exact K01_fr rg48 (by decide))) | (rcases eb69 with z | z <;> (subst z; exact K01_fr rg48 (by decide))))
                      have K5 : K01 s0 g56 := K01_trans K4 (by first | exact K01_fr rg56 (by decide) | (rcases eb69 with z | z <;> (subst z; exact K01_fr rg56 (by decide))) | (rcases eb69 with z | z <;> (subst z; exact K01_fr rg56 (by decide))))
                      have K6 : K01 s0 g66 := K01_trans K5 (qg66 (by omega))
                      have K7 : K01 s0 g79 := K01_trans K6 (by first | exact K01_fr rg79 (by decide) | (rcases eb69 with z | z <;> (subst z; exact K01_fr rg79 (by decide))) | (rcases eb69 with z | z <;> (subst z; exact K01_fr rg79 (by decide))))
                      have K8 : K01 s0 g89 := K01_trans K7 (by first | exact K01_fr rg89 (by decide) | (rcases eb69 with z | z <;> (subst z; exact K01_fr rg89 (by decide))) | (rcases eb69 with z | z <;> (subst z; exact K01_fr rg89 (by decide))))
                      have K9 : K01 s0 g97 := K01_trans K8 (by first | exact K01_fr rg97 (by decide) | (rcases eb69 with z | z <;> (subst z; exact K01_fr rg97 (by decide))) | (rcases eb69 with z | z <;> (subst z; exact K01_fr rg97 (by decide))))
                      exact K9
                    · skip
                      intro x104 o34 o35 g107 rg107
                      intro z
                      exfalso
                      omega
                  · skip
                    intro g114 rg114
                    intro x121 o30 o31 g124 rg124
                    refine ⟨fun h33z => ?_, fun h33z => ?_⟩
                    · skip
                      intro g132 rg132
                      intro z
                      have K0 : K01 s0 g := hI
                      have K1 : K01 s0 g18 := K01_trans K0 (by first | exact K01_fr rg18 (by decide) | (rcases eb69 with z | z <;> (subst z; exact K01_fr rg18 (by decide))) | (rcases eb69 with z | z <;> (subst z; exact K01_fr rg18 (by decide))))
                      have K2 : K01 s0 g26 := K01_trans K1 (by first | exact K01_fr rg26 (by decide) | (rcases eb69 with z | z <;> (subst z; exact K01_fr rg26 (by decide))) | (rcases eb69 with z | z <;> (subst z; exact K01_fr rg26 (by decide))))
                      have K3 : K01 s0 g36 := K01_trans K2 (qg36 (by omega))
                      have K4 : K01 s0 g48 := K01_trans K3 (by first | exact K01_fr rg48 (by decide) | (rcases eb69 with z | z <;> (subst z; exact K01_fr rg48 (by decide))) | (rcases eb69 with z | z <;> (subst z; exact K01_fr rg48 (by decide))))
                      have K5 : K01 s0 g56 := K01_trans K4 (by first | exact K01_fr rg56 (by decide) | (rcases eb69 with z | z <;> (subst z; exact K01_fr rg56 (by decide))) | (rcases eb69 with z | z <;> (subst z; exact K01_fr rg56 (by decide))))
                      have K6 : K01 s0 g66 := K01_trans K5 (qg66 (by omega))
                      have K7 : K01 s0 g114 := K01_trans K6 (by first | exact K01_fr rg114 (by decide) | (rcases eb69 with z | z <;> (subst z; exact K01_fr rg114 (by decide))) | (rcases eb69 with z | z <;> (subst z; exact K01_fr rg114 (by decide))))
                      have K8 : K01 s0 g124 := K01_trans K7 (by first | exact K01_fr rg124 (by decide) | (rcases eb69 with z | z <;> (subst z; exact K01_fr rg124 (by decide))) | (rcases eb69 with z | z <;> (subst z; exact K01_fr rg124 (by decide))))
                      have K9 : K01 s0 g132 := K01_trans K8 (by first | exact K01_fr rg132 (by decide) | (rcases eb69 with z | z <;> (subst z; exact K01_fr rg132 (by decide))) | (rcases eb69 with z | z <;> (subst z; exact K01_fr rg132 (by decide))))
                      exact K9
                    · skip
                      intro x139 o34 o35 g142 rg142
                      intro z
                      exfalso
                      omega
                · skip
                  intro z
                  exact absurd z (by decide)
            · skip
              intro x149 o20 o21 g152 rg152
              intro z
              exfalso
              omega
          · skip
            intro x159 o16 o17 g162 rg162
            refine ⟨fun h19z => ?_, fun h19z => ?_⟩
            · skip
              intro g170 rg170
              intro z
              have K0 : K01 s0 g := hI
              have K1 : K01 s0 g18 := K01_trans K0 (by first | exact K01_fr rg18 (by decide))
              have K2 : K01 s0 g26 := K01_trans K1 (by first | exact K01_fr rg26 (by decide))
              have K3 : K01 s0 g36 := K01_trans K2 (qg36 (by omega))
              have K4 : K01 s0 g162 := K01_trans K3 (by first | exact K01_fr rg162 (by decide))
              have K5 : K01 s0 g170 := K01_trans K4 (by first | exact K01_fr rg170 (by decide))
              exact K5
            · skip
              intro x177 o20 o21 g180 rg180
              intro z
              exfalso
              omega
        · skip
          intro z
          exact absurd z (by decide)
    · skip
      intro x187 o9 o10 g190 rg190
      intro z
      exfalso
      omega
set_option maxHeartbeats 4000000 in
theorem w_1297_c0 {s0 : zF} : p_1297_c0 s0 (fun v g => v = 1 → K01 s0 g) := by
  refine ⟨fun g v4_2 v4_3 => K01 s0 g, fun g v17_2 v17_3 v17_4 v17_5 => K01 s0 g, fun g v52_2 v52_3 v52_5 => K01 s0 g, fun g v95_2 v95_3 v95_5 s95_0 => K01 s0 g, fun g v115_2 v115_3 => K01 s0 g, fun g v130_3 => K01 s0 g, ?_, ?_, ?_, ?_, ?_, ?_, ?_⟩
  · skip
    have K0 : K01 s0 s0 := K01_refl
    exact K0
  · intro g v4_2 v4_3 rg o1 o2 o3 o4 hI
    refine ⟨fun h5z => ?_, fun h5z => ?_⟩
    · skip
      intro z
      have K0 : K01 s0 g := hI
      exact K0
    · skip
      have K0 : K01 s0 g := hI
      exact K0
  · intro g v17_2 v17_3 v17_4 v17_5 rg o1 o2 o3 o4 o5 o6 o7 hI
    refine ⟨fun h8z => ?_, fun h8z => ?_⟩
    · skip
      have K0 : K01 s0 g := hI
      exact K0
    · skip
      refine ⟨fun v g' => v = 1 → K01 g g', ?_, ?_⟩
      · skip
        exact w_1298_c0
      · skip
        intro x8 o9 o10 g11 rg11 qg11
        refine ⟨fun h13z => ?_, fun h13z => ?_⟩
        · skip
          refine ⟨fun h14z => ?_, fun h14z => ?_⟩
          · skip
            intro b15 eb15 eb15
            intro g24 rg24
            have K0 : K01 s0 g := hI
            have K1 : K01 s0 g11 := K01_trans K0 (qg11 (by omega))
            have K2 : K01 s0 g24 := K01_trans K1 (by first | exact K01_fr rg24 (by decide) | (rcases eb15 with z | z <;> (subst z; exact K01_fr rg24 (by decide))) | (rcases eb15 with z | z <;> (subst z; exact K01_fr rg24 (by decide))))
            exact K2
          · skip
            have K0 : K01 s0 g := hI
            have K1 : K01 s0 g11 := K01_trans K0 (qg11 (by omega))
            exact K1
        · skip
          intro z
          exact absurd z (by decide)
  · intro g v52_2 v52_3 v52_5 rg o1 o2 o3 o4 o5 hI
    intro x31 o6 o7 g34 rg34
    refine ⟨fun h9z => ?_, fun h9z => ?_⟩
    · skip
      have K0 : K01 s0 g := hI
      have K1 : K01 s0 g34 := K01_trans K0 (by first | exact K01_fr rg34 (by decide))
      exact K1
    · skip
      intro x42 o10 o11 g45 rg45
      refine ⟨fun h13z => ?_, fun h13z => ?_⟩
      · skip
        have K0 : K01 s0 g := hI
        have K1 : K01 s0 g34 := K01_trans K0 (by first | exact K01_fr rg34 (by decide))
        have K2 : K01 s0 g45 := K01_trans K1 (by first | exact K01_fr rg45 (by decide))
        exact K2
      · skip
        intro x53 o14 o15 g56 rg56
        refine ⟨fun h17z => ?_, fun h17z => ?_⟩
        · skip
          have K0 : K01 s0 g := hI
          have K1 : K01 s0 g34 := K01_trans K0 (by first | exact K01_fr rg34 (by decide))
          have K2 : K01 s0 g45 := K01_trans K1 (by first | exact K01_fr rg45 (by decide))
          have K3 : K01 s0 g56 := K01_trans K2 (by first | exact K01_fr rg56 (by decide))
          exact K3
        · skip
          have K0 : K01 s0 g := hI
          have K1 : K01 s0 g34 := K01_trans K0 (by first | exact K01_fr rg34 (by decide))
          have K2 : K01 s0 g45 := K01_trans K1 (by first | exact K01_fr rg45 (by decide))
          have K3 : K01 s0 g56 := K01_trans K2 (by first | exact K01_fr rg56 (by decide))
          exact K3
  · intro g v95_2 v95_3 v95_5 s95_0 rg o1 o2 o3 o4 o5 o6 o7 hI
    refine ⟨fun h8z => ?_, fun h8z => ?_⟩
    · skip
      intro g65 rg65 x67 ex67
      have K0 : K01 s0 g := hI
      have K1 : K01 s0 g65 := K01_trans K0 (by first | exact K01_fr rg65 (by decide))
      exact K1
    · skip
      have K0 : K01 s0 g := hI
      exact K0
  · intro g v115_2 v115_3 rg o1 o2 o3 hI
    refine ⟨fun h4z => ?_, fun h4z => ?_⟩
    · skip
      intro b70 eb70 eb70
      intro g79 rg79
      have K0 : K01 s0 g := hI
      have K1 : K01 s0 g79 := K01_trans K0 (by first | exact K01_fr rg79 (by decide) | (rcases eb70 with z | z <;> (subst z; exact K01_fr rg79 (by decide))) | (rcases eb70 with z | z <;> (subst z; exact K01_fr rg79 (by decide))))
      exact K1
    · skip
      have K0 : K01 s0 g := hI
      exact K0
  · intro g v130_3 rg o1 o2 hI
    intro x86 o3 o4 g89 rg89
    refine ⟨fun h6z => ?_, fun h6z => ?_⟩
    · skip
      intro g97 rg97 x99 ex99
      have K0 : K01 s0 g := hI
      have K1 : K01 s0 g89 := K01_trans K0 (by first | exact K01_fr rg89 (by decide))
      have K2 : K01 s0 g97 := K01_trans K1 (by first | exact K01_fr rg97 (by decide))
      exact K2
    · skip
      intro x106 o7 o8 g109 rg109
      refine ⟨fun h10z => ?_, fun h10z => ?_⟩
      · skip
        intro g117 rg117 x119 ex119
        have K0 : K01 s0 g := hI
        have K1 : K01 s0 g89 := K01_trans K0 (by first | exact K01_fr rg89 (by decide))
        have K2 : K01 s0 g109 := K01_trans K1 (by first | exact K01_fr rg109 (by decide))
        have K3 : K01 s0 g117 := K01_trans K2 (by first | exact K01_fr rg117 (by decide))
        exact K3
      · skip
        intro z
        have K0 : K01 s0 g := hI
        have K1 : K01 s0 g89 := K01_trans K0 (by first | exact K01_fr rg89 (by decide))
        have K2 : K01 s0 g109 := K01_trans K1 (by first | exact K01_fr rg109 (by decide))
        exact K2
set_option maxHeartbeats 4000000 in
theorem w_1301_c8 {s0 : zF} : p_1301_c8 s0 (fun v g => v = 1 → K01 s0 g) := by
  refine ⟨fun g v2_2 => K01 s0 g, fun g v28_2 => K01 s0 g, fun g v167_2 s167_0 => K01 s0 g, ?_, ?_, ?_, ?_⟩
  · skip
    have K0 : K01 s0 s0 := K01_refl
    exact K0
  · intro g v2_2 rg o1 o2 hI
    refine ⟨fun h3z => ?_, fun h3z => ?_⟩
    · skip
      have K0 : K01 s0 g := hI
      exact K0
    · skip
      intro x7 o4 o5 g10 rg10
      refine ⟨fun h7z => ?_, fun h7z => ?_⟩
      · skip
        have K0 : K01 s0 g := hI
        have K1 : K01 s0 g10 := K01_trans K0 (by first | exact K01_fr rg10 (by decide))
        exact K1
      · skip
        intro g18 rg18 x20 ex20
        have K0 : K01 s0 g := hI
        have K1 : K01 s0 g10 := K01_trans K0 (by first | exact K01_fr rg10 (by decide))
        have K2 : K01 s0 g18 := K01_trans K1 (by first | exact K01_fr rg18 (by decide))
        exact K2
  · intro g v28_2 rg o1 o2 hI
    intro x27 o3 o4 g30 rg30
    refine ⟨fun h6z => ?_, fun h6z => ?_⟩
    · skip
      intro x38 o7 o8 g41 rg41
      intro z
      exfalso
      omega
    · skip
      intro x48 o7 o8 g51 rg51
      refine ⟨fun h10z => ?_, fun h10z => ?_⟩
      · skip
        refine ⟨fun v g' => v = 1 → K01 g51 g', ?_, ?_⟩
        · skip
          exact w_1297_c8
        · skip
          intro x59 o11 o12 g62 rg62 qg62
          refine ⟨fun h15z => ?_, fun h15z => ?_⟩
          · skip
            intro x70 o16 o17 g73 rg73
            refine ⟨fun h19z => ?_, fun h19z => ?_⟩
            · skip
              have K0 : K01 s0 g := hI
              have K1 : K01 s0 g30 := K01_trans K0 (by first | exact K01_fr rg30 (by decide))
              have K2 : K01 s0 g51 := K01_trans K1 (by first | exact K01_fr rg51 (by decide))
              have K3 : K01 s0 g62 := K01_trans K2 (qg62 (by omega))
              have K4 : K01 s0 g73 := K01_trans K3 (by first | exact K01_fr rg73 (by decide))
              exact K4
            · skip
              intro x81 o20 o21 g84 rg84
              refine ⟨fun h23z => ?_, fun h23z => ?_⟩
              · skip
                have K0 : K01 s0 g := hI
                have K1 : K01 s0 g30 := K01_trans K0 (by first | exact K01_fr rg30 (by decide))
                have K2 : K01 s0 g51 := K01_trans K1 (by first | exact K01_fr rg51 (by decide))
                have K3 : K01 s0 g62 := K01_trans K2 (qg62 (by omega))
                have K4 : K01 s0 g73 := K01_trans K3 (by first | exact K01_fr rg73 (by decide))
                have K5 : K01 s0 g84 := K01_trans K4 (by first | exact K01_fr rg84 (by decide))
                exact K5
              · skip
                intro x92 o24 o25 g95 rg95
                refine ⟨fun h27z => ?_, fun h27z => ?_⟩
                · skip
                  have K0 : K01 s0 g := hI
                  have K1 : K01 s0 g30 := K01_trans K0 (by first | exact K01_fr rg30 (by decide))
                  have K2 : K01 s0 g51 := K01_trans K1 (by first | exact K01_fr rg51 (by decide))
                  have K3 : K01 s0 g62 := K01_trans K2 (qg62 (by omega))
                  have K4 : K01 s0 g73 := K01_trans K3 (by first | exact K01_fr rg73 (by decide))
                  have K5 : K01 s0 g84 := K01_trans K4 (by first | exact K01_fr rg84 (by decide))
                  have K6 : K01 s0 g95 := K01_trans K5 (by first | exact K01_fr rg95 (by decide))
                  exact K6
                · skip
                  have K0 : K01 s0 g := hI
                  have K1 : K01 s0 g30 := K01_trans K0 (by first | exact K01_fr rg30 (by decide))
                  have K2 : K01 s0 g51 := K01_trans K1 (by first | exact K01_fr rg51 (by decide))
                  have K3 : K01 s0 g62 := K01_trans K2 (qg62 (by omega))
                  have K4 : K01 s0 g73 := K01_trans K3 (by first | exact K01_fr rg73 (by decide))
                  have K5 : K01 s0 g84 := K01_trans K4 (by first | exact K01_fr rg84 (by decide))
                  have K6 : K01 s0 g95 := K01_trans K5 (by first | exact K01_fr rg95 (by decide))
                  exact K6
          · skip
            intro z
            exact absurd z (by decide)
      · skip
        intro g103 rg103 b105 eb105 eb105
        intro g114 rg114 x116 o15 o16 ex116
        refine ⟨fun h18z => ?_, fun h18z => ?_⟩
        · skip
          intro z
          have K0 : K01 s0 g := hI
          have K1 : K01 s0 g30 := K01_trans K0 (by first | exact K01_fr rg30 (by decide) | (rcases eb105 with z | z <;> (subst z; exact K01_fr rg30 (by decide))) | (rcases eb105 with z | z <;> (subst z; exact K01_fr rg30 (by decide))))
          have K2 : K01 s0 g51 := K01_trans K1 (by first | exact K01_fr rg51 (by decide) | (rcases eb105 with z | z <;> (subst z; exact K01_fr rg51 (by decide))) | (rcases eb105 with z | z <;> (subst z; exact K01_fr rg51 (by decide))))
          have K3 : K01 s0 g103 := K01_trans K2 (by first | exact K01_fr rg103 (by decide) | (rcases eb105 with z | z <;> (subst z; exact K01_fr rg103 (by decide))) | (rcases eb105 with z | z <;> (subst z; exact K01_fr rg103 (by decide))))
          have K4 : K01 s0 g114 := K01_trans K3 (by first | exact K01_fr rg114 (by decide) | (rcases eb105 with z | z <;> (subst z; exact K01_fr rg114 (by decide))) | (rcases eb105 with z | z <;> (subst z; exact K01_fr rg114 (by decide))))
          exact K4
        · skip
          intro g127 rg127
          intro z
          have K0 : K01 s0 g := hI
          have K1 : K01 s0 g30 := K01_trans K0 (by first | exact K01_fr rg30 (by decide) | (rcases eb105 with z | z <;> (subst z; exact K01_fr rg30 (by decide))) | (rcases eb105 with z | z <;> (subst z; exact K01_fr rg30 (by decide))))
          have K2 : K01 s0 g51 := K01_trans K1 (by first | exact K01_fr rg51 (by decide) | (rcases eb105 with z | z <;> (subst z; exact K01_fr rg51 (by decide))) | (rcases eb105 with z | z <;> (subst z; exact K01_fr rg51 (by decide))))
          have K3 : K01 s0 g103 := K01_trans K2 (by first | exact K01_fr rg103 (by decide) | (rcases eb105 with z | z <;> (subst z; exact K01_fr rg103 (by decide))) | (rcases eb105 with z | z <;> (subst z; exact K01_fr rg103 (by decide))))
          have K4 : K01 s0 g114 := K01_trans K3 (by first | exact K01_fr rg114 (by decide) | (rcases eb105 with z | z <;> (subst z; exact K01_fr rg114 (by decide))) | (rcases eb105 with z | z <;> (subst z; exact K01_fr rg114 (by decide))))
          have K5 : K01 s0 g127 := K01_trans K4 (by first | exact K01_fr rg127 (by decide) | (rcases eb105 with z | z <;> (subst z; exact K01_fr rg127 (by decide))) | (rcases eb105 with z | z <;> (subst z; exact K01_fr rg127 (by decide))))
          exact K5
  · intro g v167_2 s167_0 rg o1 o2 o3 o4 hI
    refine ⟨fun h5z => ?_, fun h5z => ?_⟩
    · skip
      intro g135 rg135
      refine ⟨fun v g' => v = 1 → K01 g135 g', ?_, ?_⟩
      · skip
        exact w_1297_c8
      · skip
        intro x142 o7 o8 g145 rg145 qg145
        refine ⟨fun h11z => ?_, fun h11z => ?_⟩
        · skip
          intro b148 eb148 eb148
          intro g157 rg157 x159 o15 o16 ex159
          refine ⟨fun h18z => ?_, fun h18z => ?_⟩
          · skip
            intro z
            have K0 : K01 s0 g := hI
            have K1 : K01 s0 g135 := K01_trans K0 (by first | exact K01_fr rg135 (by decide) | (rcases eb148 with z | z <;> (subst z; exact K01_fr rg135 (by decide))) | (rcases eb148 with z | z <;> (subst z; exact K01_fr rg135 (by decide))))
            have K2 : K01 s0 g145 := K01_trans K1 (qg145 (by omega))
            have K3 : K01 s0 g157 := K01_trans K2 (by first | exact K01_fr rg157 (by decide) | (rcases eb148 with z | z <;> (subst z; exact K01_fr rg157 (by decide))) | (rcases eb148 with z | z <;> (subst z; exact K01_fr rg157 (by decide))))
            exact K3
          · skip
            intro g170 rg170
            intro z
            have K0 : K01 s0 g := hI
            have K1 : K01 s0 g135 := K01_trans K0 (by first | exact K01_fr rg135 (by decide) | (rcases eb148 with z | z <;> (subst z; exact K01_fr rg135 (by decide))) | (rcases eb148 with z | z <;> (subst z; exact K01_fr rg135 (by decide))))
            have K2 : K01 s0 g145 := K01_trans K1 (qg145 (by omega))
            have K3 : K01 s0 g157 := K01_trans K2 (by first | exact K01_fr rg157 (by decide) | (rcases eb148 with z | z <;> (subst z; exact K01_fr rg157 (by decide))) | (rcases eb148 with z | z <;> (subst z; exact K01_fr rg157 (by decide))))
            have K4 : K01 s0 g170 := K01_trans K3 (by first | exact K01_fr rg170 (by decide) | (rcases eb148 with z | z <;> (subst z; exact K01_fr rg170 (by decide))) | (rcases eb148 with z | z <;> (subst z; exact K01_fr rg170 (by decide))))
            exact K4
        · skip
          intro z
          exact absurd z (by decide)
    · skip
      intro x177 o6 o7 g180 rg180
      intro z
      exfalso
      omega
set_option maxHeartbeats 4000000 in
theorem w_1300_c8 {s0 : zF} : p_1300_c8 s0 (fun v g => v = 1 → K01 s0 g) := by
  refine ⟨fun g v2_2 => K01 s0 g, fun g v11_2 v11_3 => K01 s0 g, fun g v44_2 v44_3 => K01 s0 g, fun g v66_2 => K01 s0 g, ?_, ?_, ?_, ?_, ?_⟩
  · skip
    have K0 : K01 s0 s0 := K01_refl
    exact K0
  · intro g v2_2 rg o1 o2 hI
    refine ⟨fun h3z => ?_, fun h3z => ?_⟩
    · skip
      intro z
      have K0 : K01 s0 g := hI
      exact K0
    · skip
      have K0 : K01 s0 g := hI
      exact K0
  · intro g v11_2 v11_3 rg o1 o2 o3 o4 hI
    refine ⟨fun h5z => ?_, fun h5z => ?_⟩
    · skip
      have K0 : K01 s0 g := hI
      exact K0
    · skip
      refine ⟨fun v g' => v = 1 → K01 g g', ?_, ?_⟩
      · skip
        exact w_1301_c8
      · skip
        intro x8 o6 o7 g11 rg11 qg11
        refine ⟨fun h10z => ?_, fun h10z => ?_⟩
        · skip
          refine ⟨fun h11z => ?_, fun h11z => ?_⟩
          · skip
            intro b15 eb15 eb15
            intro g24 rg24
            have K0 : K01 s0 g := hI
            have K1 : K01 s0 g11 := K01_trans K0 (qg11 (by omega))
            have K2 : K01 s0 g24 := K01_trans K1 (by first | exact K01_fr rg24 (by decide) | (rcases eb15 with z | z <;> (subst z; exact K01_fr rg24 (by decide))) | (rcases eb15 with z | z <;> (subst z; exact K01_fr rg24 (by decide))))
            exact K2
          · skip
            have K0 : K01 s0 g := hI
            have K1 : K01 s0 g11 := K01_trans K0 (qg11 (by omega))
            exact K1
        · skip
          intro z
          exact absurd z (by decide)
  · intro g v44_2 v44_3 rg o1 o2 o3 o4 hI
    intro x31 o5 o6 g34 rg34
    refine ⟨fun h8z => ?_, fun h8z => ?_⟩
    · skip
      have K0 : K01 s0 g := hI
      have K1 : K01 s0 g34 := K01_trans K0 (by first | exact K01_fr rg34 (by decide))
      exact K1
    · skip
      intro g42 rg42 x44 ex44
      have K0 : K01 s0 g := hI
      have K1 : K01 s0 g34 := K01_trans K0 (by first | exact K01_fr rg34 (by decide))
      have K2 : K01 s0 g42 := K01_trans K1 (by first | exact K01_fr rg42 (by decide))
      exact K2
  · intro g v66_2 rg o1 o2 hI
    refine ⟨fun h3z => ?_, fun h3z => ?_⟩
    · skip
      intro b47 eb47 eb47
      intro g56 rg56
      intro x63 o7 o8 g66 rg66
      refine ⟨fun h10z => ?_, fun h10z => ?_⟩
      · skip
        intro z
        have K0 : K01 s0 g := hI
        have K1 : K01 s0 g56 := K01_trans K0 (by first | exact K01_fr rg56 (by decide) | (rcases eb47 with z | z <;> (subst z; exact K01_fr rg56 (by decide))) | (rcases eb47 with z | z <;> (subst z; exact K01_fr rg56 (by decide))))
        have K2 : K01 s0 g66 := K01_trans K1 (by first | exact K01_fr rg66 (by decide) | (rcases eb47 with z | z <;> (subst z; exact K01_fr rg66 (by decide))) | (rcases eb47 with z | z <;> (subst z; exact K01_fr rg66 (by decide))))
        exact K2
      · skip
        intro g74 rg74 x76 ex76
        have K0 : K01 s0 g := hI
        have K1 : K01 s0 g56 := K01_trans K0 (by first | exact K01_fr rg56 (by decide) | (rcases eb47 with z | z <;> (subst z; exact K01_fr rg56 (by decide))) | (rcases eb47 with z | z <;> (subst z; exact K01_fr rg56 (by decide))))
        have K2 : K01 s0 g66 := K01_trans K1 (by first | exact K01_fr rg66 (by decide) | (rcases eb47 with z | z <;> (subst z; exact K01_fr rg66 (by decide))) | (rcases eb47 with z | z <;> (subst z; exact K01_fr rg66 (by decide))))
        have K3 : K01 s0 g74 := K01_trans K2 (by first | exact K01_fr rg74 (by decide) | (rcases eb47 with z | z <;> (subst z; exact K01_fr rg74 (by decide))) | (rcases eb47 with z | z <;> (subst z; exact K01_fr rg74 (by decide))))
        exact K3
    · skip
      intro x83 o4 o5 g86 rg86
      refine ⟨fun h7z => ?_, fun h7z => ?_⟩
      · skip
        intro z
        have K0 : K01 s0 g := hI
        have K1 : K01 s0 g86 := K01_trans K0 (by first | exact K01_fr rg86 (by decide))
        exact K1
      · skip
        intro g94 rg94 x96 ex96
        have K0 : K01 s0 g := hI
        have K1 : K01 s0 g86 := K01_trans K0 (by first | exact K01_fr rg86 (by decide))
        have K2 : K01 s0 g94 := K01_trans K1 (by first | exact K01_fr rg94 (by decide))
        exact K2
set_option maxHeartbeats 4000000 in
theorem w_1301_c7 {s0 : zF} : p_1301_c7 s0 (fun v g => v = 1 → K01 s0 g) := by
  refine ⟨fun g v2_2 => K01 s0 g, fun g v28_2 => K01 s0 g, fun g v167_2 s167_0 => K01 s0 g, ?_, ?_, ?_, ?_⟩
  · skip
    have K0 : K01 s0 s0 := K01_refl
    exact K0
  · intro g v2_2 rg o1 o2 hI
    refine ⟨fun h3z => ?_, fun h3z => ?_⟩
    · skip
      have K0 : K01 s0 g := hI
      exact K0
    · skip
      intro x7 o4 o5 g10 rg10
      refine ⟨fun h7z => ?_, fun h7z => ?_⟩
      · skip
        have K0 : K01 s0 g := hI
        have K1 : K01 s0 g10 := K01_trans K0 (by first | exact K01_fr rg10 (by decide))
        exact K1
      · skip
        intro g18 rg18 x20 ex20
        have K0 : K01 s0 g := hI
        have K1 : K01 s0 g10 := K01_trans K0 (by first | exact K01_fr rg10 (by decide))
        have K2 : K01 s0 g18 := K01_trans K1 (by first | exact K01_fr rg18 (by decide))
        exact K2
  · intro g v28_2 rg o1 o2 hI
    intro x27 o3 o4 g30 rg30
    refine ⟨fun h6z => ?_, fun h6z => ?_⟩
    · skip
      intro g38 rg38
      refine ⟨fun v g' => v = 1 → K01 g38 g', ?_, ?_⟩
      · skip
        exact w_1300_c8
      · skip
        intro x45 o8 o9 g48 rg48 qg48
        refine ⟨fun h12z => ?_, fun h12z => ?_⟩
        · skip
          intro x56 o13 o14 g59 rg59
          refine ⟨fun h16z => ?_, fun h16z => ?_⟩
          · skip
            intro g67 rg67 x69 o18 o19 ex69
            refine ⟨fun h21z => ?_, fun h21z => ?_⟩
            · skip
              intro z
              have K0 : K01 s0 g := hI
              have K1 : K01 s0 g30 := K01_trans K0 (by first | exact K01_fr rg30 (by decide))
              have K2 : K01 s0 g38 := K01_trans K1 (by first | exact K01_fr rg38 (by decide))
              have K3 : K01 s0 g48 := K01_trans K2 (qg48 (by omega))
              have K4 : K01 s0 g59 := K01_trans K3 (by first | exact K01_fr rg59 (by decide))
              have K5 : K01 s0 g67 := K01_trans K4 (by first | exact K01_fr rg67 (by decide))
              exact K5
            · skip
              intro b74 eb74 eb74
              intro g83 rg83
              intro z
              have K0 : K01 s0 g := hI
              have K1 : K01 s0 g30 := K01_trans K0 (by first | exact K01_fr rg30 (by decide) | (rcases eb74 with z | z <;> (subst z; exact K01_fr rg30 (by decide))) | (rcases eb74 with z | z <;> (subst z; exact K01_fr rg30 (by decide))))
              have K2 : K01 s0 g38 := K01_trans K1 (by first | exact K01_fr rg38 (by decide) | (rcases eb74 with z | z <;> (subst z; exact K01_fr rg38 (by decide))) | (rcases eb74 with z | z <;> (subst z; exact K01_fr rg38 (by decide))))
              have K3 : K01 s0 g48 := K01_trans K2 (qg48 (by omega))
              have K4 : K01 s0 g59 := K01_trans K3 (by first | exact K01_fr rg59 (by decide) | (rcases eb74 with z | z <;> (subst z; exact K01_fr rg59 (by decide))) | (rcases eb74 with z | z <;> (subst z; exact K01_fr rg59 (by decide))))
              have K5 : K01 s0 g67 := K01_trans K4 (by first | exact K01_fr rg67 (by decide) | (rcases eb74 with z | z <;> (subst z; exact K01_fr rg67 (by decide))) | (rcases eb74 with z | z <;> (subst z; exact K01_fr rg67 (by decide))))
              have K6 : K01 s0 g83 := K01_trans K5 (by first | exact K01_fr rg83 (by decide) | (rcases eb74 with z | z <;> (subst z; exact K01_fr rg83 (by decide))) | (rcases eb74 with z | z <;> (subst z; exact K01_fr rg83 (by decide))))
              exact K6
          · skip
            intro x90 o17 o18 g93 rg93
            intro z
            exfalso
            omega
        · skip
          intro z
          exact absurd z (by decide)
    · skip
      intro x100 o7 o8 g103 rg103
      refine ⟨fun h10z => ?_, fun h10z => ?_⟩
      · skip
        refine ⟨fun v g' => v = 1 → K01 g103 g', ?_, ?_⟩
        · skip
          exact w_1297_c7
        · skip
          intro x111 o11 o12 g114 rg114 qg114
          refine ⟨fun h15z => ?_, fun h15z => ?_⟩
          · skip
            intro x122 o16 o17 g125 rg125
            refine ⟨fun h19z => ?_, fun h19z => ?_⟩
            · skip
              have K0 : K01 s0 g := hI
              have K1 : K01 s0 g30 := K01_trans K0 (by first | exact K01_fr rg30 (by decide))
              have K2 : K01 s0 g103 := K01_trans K1 (by first | exact K01_fr rg103 (by decide))
              have K3 : K01 s0 g114 := K01_trans K2 (qg114 (by omega))
              have K4 : K01 s0 g125 := K01_trans K3 (by first | exact K01_fr rg125 (by decide))
              exact K4
            · skip
              intro x133 o20 o21 g136 rg136
              refine ⟨fun h23z => ?_, fun h23z => ?_⟩
              · skip
                have K0 : K01 s0 g := hI
                have K1 : K01 s0 g30 := K01_trans K0 (by first | exact K01_fr rg30 (by decide))
                have K2 : K01 s0 g103 := K01_trans K1 (by first | exact K01_fr rg103 (by decide))
                have K3 : K01 s0 g114 := K01_trans K2 (qg114 (by omega))
                have K4 : K01 s0 g125 := K01_trans K3 (by first | exact K01_fr rg125 (by decide))
                have K5 : K01 s0 g136 := K01_trans K4 (by first | exact K01_fr rg136 (by decide))
                exact K5
              · skip
                intro x144 o24 o25 g147 rg147
                refine ⟨fun h27z => ?_, fun h27z => ?_⟩
                · skip
                  have K0 : K01 s0 g := hI
                  have K1 : K01 s0 g30 := K01_trans K0 (by first | exact K01_fr rg30 (by decide))
                  have K2 : K01 s0 g103 := K01_trans K1 (by first | exact K01_fr rg103 (by decide))
                  have K3 : K01 s0 g114 := K01_trans K2 (qg114 (by omega))
                  have K4 : K01 s0 g125 := K01_trans K3 (by first | exact K01_fr rg125 (by decide))
                  have K5 : K01 s0 g136 := K01_trans K4 (by first | exact K01_fr rg136 (by decide))
                  have K6 : K01 s0 g147 := K01_trans K5 (by first | exact K01_fr rg147 (by decide))
                  exact K6
                · skip
                  have K0 : K01 s0 g := hI
                  have K1 : K01 s0 g30 := K01_trans K0 (by first | exact K01_fr rg30 (by decide))
                  have K2 : K01 s0 g103 := K01_trans K1 (by first | exact K01_fr rg103 (by decide))
                  have K3 : K01 s0 g114 := K01_trans K2 (qg114 (by omega))
                  have K4 : K01 s0 g125 := K01_trans K3 (by first | exact K01_fr rg125 (by decide))
                  have K5 : K01 s0 g136 := K01_trans K4 (by first | exact K01_fr rg136 (by decide))
                  have K6 : K01 s0 g147 := K01_trans K5 (by first | exact K01_fr rg147 (by decide))
                  exact K6
          · skip
            intro z
            exact absurd z (by decide)
      · skip
        intro g155 rg155 b157 eb157 eb157
        intro g166 rg166 x168 o15 o16 ex168
        refine ⟨fun h18z => ?_, fun h18z => ?_⟩
        · skip
          intro z
          have K0 : K01 s0 g := hI
          have K1 : K01 s0 g30 := K01_trans K0 (by first | exact K01_fr rg30 (by decide) | (rcases eb157 with z | z <;> (subst z; exact K01_fr rg30 (by decide))) | (rcases eb157 with z | z <;> (subst z; exact K01_fr rg30 (by decide))))
          have K2 : K01 s0 g103 := K01_trans K1 (by first | exact K01_fr rg103 (by decide) | (rcases eb157 with z | z <;> (subst z; exact K01_fr rg103 (by decide))) | (rcases eb157 with z | z <;> (subst z; exact K01_fr rg103 (by decide))))
          have K3 : K01 s0 g155 := K01_trans K2 (by first | exact K01_fr rg155 (by decide) | (rcases eb157 with z | z <;> (subst z; exact K01_fr rg155 (by decide))) | (rcases eb157 with z | z <;> (subst z; exact K01_fr rg155 (by decide))))
          have K4 : K01 s0 g166 := K01_trans K3 (by first | exact K01_fr rg166 (by decide) | (rcases eb157 with z | z <;> (subst z; exact K01_fr rg166 (by decide))) | (rcases eb157 with z | z <;> (subst z; exact K01_fr rg166 (by decide))))
          exact K4
        · skip
          intro g179 rg179
          intro z
          have K0 : K01 s0 g := hI
          have K1 : K01 s0 g30 := K01_trans K0 (by first | exact K01_fr rg30 (by decide) | (rcases eb157 with z | z <;> (subst z; exact K01_fr rg30 (by decide))) | (rcases eb157 with z | z <;> (subst z; exact K01_fr rg30 (by decide))))
          have K2 : K01 s0 g103 := K01_trans K1 (by first | exact K01_fr rg103 (by decide) | (rcases eb157 with z | z <;> (subst z; exact K01_fr rg103 (by decide))) | (rcases eb157 with z | z <;> (subst z; exact K01_fr rg103 (by decide))))
          have K3 : K01 s0 g155 := K01_trans K2 (by first | exact K01_fr rg155 (by decide) | (rcases eb157 with z | z <;> (subst z; exact K01_fr rg155 (by decide))) | (rcases eb157 with z | z <;> (subst z; exact K01_fr rg155 (by decide))))
          have K4 : K01 s0 g166 := K01_trans K3 (by first | exact K01_fr rg166 (by decide) | (rcases eb157 with z | z <;> (subst z; exact K01_fr rg166 (by decide))) | (rcases eb157 with z | z <;> (subst z; exact K01_fr rg166 (by decide))))
          have K5 : K01 s0 g179 := K01_trans K4 (by first | exact K01_fr rg179 (by decide) | (rcases eb157 with z | z <;> (subst z; exact K01_fr rg179 (by decide))) | (rcases eb157 with z | z <;> (subst z; exact K01_fr rg179 (by decide))))
          exact K5
  · intro g v167_2 s167_0 rg o1 o2 o3 o4 hI
    refine ⟨fun h5z => ?_, fun h5z => ?_⟩
    · skip
      intro g187 rg187
      refine ⟨fun v g' => v = 1 → K01 g187 g', ?_, ?_⟩
      · skip
        exact w_1297_c7
      · skip
        intro x194 o7 o8 g197 rg197 qg197
        refine ⟨fun h11z => ?_, fun h11z => ?_⟩
        · skip
          intro b200 eb200 eb200
          intro g209 rg209 x211 o15 o16 ex211
          refine ⟨fun h18z => ?_, fun h18z => ?_⟩
          · skip
            intro z
            have K0 : K01 s0 g := hI
            have K1 : K01 s0 g187 := K01_trans K0 (by first | exact K01_fr rg187 (by decide) | (rcases eb200 with z | z <;> (subst z; exact K01_fr rg187 (by decide))) | (rcases eb200 with z | z <;> (subst z; exact K01_fr rg187 (by decide))))
            have K2 : K01 s0 g197 := K01_trans K1 (qg197 (by omega))
            have K3 : K01 s0 g209 := K01_trans K2 (by first | exact K01_fr rg209 (by decide) | (rcases eb200 with z | z <;> (subst z; exact K01_fr rg209 (by decide))) | (rcases eb200 with z | z <;> (subst z; exact K01_fr rg209 (by decide))))
            exact K3
          · skip
            intro g222 rg222
            intro z
            have K0 : K01 s0 g := hI
            have K1 : K01 s0 g187 := K01_trans K0 (by first | exact K01_fr rg187 (by decide) | (rcases eb200 with z | z <;> (subst z; exact K01_fr rg187 (by decide))) | (rcases eb200 with z | z <;> (subst z; exact K01_fr rg187 (by decide))))
            have K2 : K01 s0 g197 := K01_trans K1 (qg197 (by omega))
            have K3 : K01 s0 g209 := K01_trans K2 (by first | exact K01_fr rg209 (by decide) | (rcases eb200 with z | z <;> (subst z; exact K01_fr rg209 (by decide))) | (rcases eb200 with z | z <;> (subst z; exact K01_fr rg209 (by decide))))
            have K4 : K01 s0 g222 := K01_trans K3 (by first | exact K01_fr rg222 (by decide) | (rcases eb200 with z | z <;> (subst z; exact K01_fr rg222 (by decide))) | (rcases eb200 with z | z <;> (subst z; exact K01_fr rg222 (by decide))))
            exact K4
        · skip
          intro z
          exact absurd z (by decide)
    · skip
      intro x229 o6 o7 g232 rg232
      intro z
      exfalso
      omega
set_option maxHeartbeats 4000000 in
theorem w_1300_c7 {s0 : zF} : p_1300_c7 s0 (fun v g => v = 1 → K01 s0 g) := by
  refine ⟨fun g v2_2 => K01 s0 g, fun g v11_2 v11_3 => K01 s0 g, fun g v44_2 v44_3 => K01 s0 g, fun g v66_2 => K01 s0 g, ?_, ?_, ?_, ?_, ?_⟩
  · skip
    have K0 : K01 s0 s0 := K01_refl
    exact K0
  · intro g v2_2 rg o1 o2 hI
    refine ⟨fun h3z => ?_, fun h3z => ?_⟩
    · skip
      intro z
      have K0 : K01 s0 g := hI
      exact K0
    · skip
      have K0 : K01 s0 g := hI
      exact K0
  · intro g v11_2 v11_3 rg o1 o2 o3 o4 hI
    refine ⟨fun h5z => ?_, fun h5z => ?_⟩
    · skip
      have K0 : K01 s0 g := hI
      exact K0
    · skip
      refine ⟨fun v g' => v = 1 → K01 g g', ?_, ?_⟩
      · skip
        exact w_1301_c7
      · skip
        intro x8 o6 o7 g11 rg11 qg11
        refine ⟨fun h10z => ?_, fun h10z => ?_⟩
        · skip
          refine ⟨fun h11z => ?_, fun h11z => ?_⟩
          · skip
            intro b15 eb15 eb15
            intro g24 rg24
            have K0 : K01 s0 g := hI
            have K1 : K01 s0 g11 := K01_trans K0 (qg11 (by omega))
            have K2 : K01 s0 g24 := K01_trans K1 (by first | exact K01_fr rg24 (by decide) | (rcases eb15 with z | z <;> (subst z; exact K01_fr rg24 (by decide))) | (rcases eb15 with z | z <;> (subst z; exact K01_fr rg24 (by decide))))
            exact K2
          · skip
            have K0 : K01 s0 g := hI
            have K1 : K01 s0 g11 := K01_trans K0 (qg11 (by omega))
            exact K1
        · skip
          intro z
          exact absurd z (by decide)
  · intro g v44_2 v44_3 rg o1 o2 o3 o4 hI
    intro x31 o5 o6 g34 rg34
    refine ⟨fun h8z => ?_, fun h8z => ?_⟩
    · skip
      have K0 : K01 s0 g := hI
      have K1 : K01 s0 g34 := K01_trans K0 (by first | exact K01_fr rg34 (by decide))
      exact K1
    · skip
      intro g42 rg42 x44 ex44
      have K0 : K01 s0 g := hI
      have K1 : K01 s0 g34 := K01_trans K0 (by first | exact K01_fr rg34 (by decide))
      have K2 : K01 s0 g42 := K01_trans K1 (by first | exact K01_fr rg42 (by decide))
      exact K2
  · intro g v66_2 rg o1 o2 hI
    refine ⟨fun h3z => ?_, fun h3z => ?_⟩
    · skip
      intro b47 eb47 eb47
      intro g56 rg56
      intro x63 o7 o8 g66 rg66
      refine ⟨fun h10z => ?_, fun h10z => ?_⟩
      · skip
        intro z
        have K0 : K01 s0 g := hI
        have K1 : K01 s0 g56 := K01_trans K0 (by first | exact K01_fr rg56 (by decide) | (rcases eb47 with z | z <;> (subst z; exact K01_fr rg56 (by decide))) | (rcases eb47 with z | z <;> (subst z; exact K01_fr rg56 (by decide))))
        have K2 : K01 s0 g66 := K01_trans K1 (by first | exact K01_fr rg66 (by decide) | (rcases eb47 with z | z <;> (subst z; exact K01_fr rg66 (by decide))) | (rcases eb47 with z | z <;> (subst z; exact K01_fr rg66 (by decide))))
        exact K2
      · skip
        intro g74 rg74 x76 ex76
        have K0 : K01 s0 g := hI
        have K1 : K01 s0 g56 := K01_trans K0 (by first | exact K01_fr rg56 (by decide) | (rcases eb47 with z | z <;> (subst z; exact K01_fr rg56 (by decide))) | (rcases eb47 with z | z <;> (subst z; exact K01_fr rg56 (by decide))))
        have K2 : K01 s0 g66 := K01_trans K1 (by first | exact K01_fr rg66 (by decide) | (rcases eb47 with z | z <;> (subst z; exact K01_fr rg66 (by decide))) | (rcases eb47 with z | z <;> (subst z; exact K01_fr rg66 (by decide))))
        have K3 : K01 s0 g74 := K01_trans K2 (by first | exact K01_fr rg74 (by decide) | (rcases eb47 with z | z <;> (subst z; exact K01_fr rg74 (by decide))) | (rcases eb47 with z | z <;> (subst z; exact K01_fr rg74 (by decide))))
        exact K3
    · skip
      intro x83 o4 o5 g86 rg86
      refine ⟨fun h7z => ?_, fun h7z => ?_⟩
      · skip
        intro z
        have K0 : K01 s0 g := hI
        have K1 : K01 s0 g86 := K01_trans K0 (by first | exact K01_fr rg86 (by decide))
        exact K1
      · skip
        intro g94 rg94 x96 ex96
        have K0 : K01 s0 g := hI
        have K1 : K01 s0 g86 := K01_trans K0 (by first | exact K01_fr rg86 (by decide))
        have K2 : K01 s0 g94 := K01_trans K1 (by first | exact K01_fr rg94 (by decide))
        exact K2
