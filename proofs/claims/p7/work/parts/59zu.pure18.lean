/-! nothing is blamed, so no place is told (wip/safe/vcp.py) -/
set_option maxHeartbeats 4000000 in
theorem w9_2319 {s0 : zF} {a0 : Int} : p_2319 s0 a0 (fun _ _ => True) := by
  unfold p_2319
  intro x1 ex1
  refine ⟨fun h2z => ?_, fun h2z => ?_⟩
  · skip
    intro x4 ex4
    refine ⟨fun h4z => ?_, fun h4z => ?_⟩
    · skip
      intro x7 ex7
      refine ⟨fun h6z => ?_, fun h6z => ?_⟩
      · skip
        intro x10 ex10
        refine ⟨fun h8z => ?_, fun h8z => ?_⟩
        · skip
          intro x13 ex13
          refine ⟨fun h10z => ?_, fun h10z => ?_⟩
          · skip
            intro x16 ex16
            refine ⟨fun h12z => ?_, fun h12z => ?_⟩
            · skip
              intro x19 ex19
              refine ⟨fun h14z => ?_, fun h14z => ?_⟩
              · skip
                intro x22 ex22
                refine ⟨fun h16z => ?_, fun h16z => ?_⟩
                · skip
                  intro x25 ex25
                  refine ⟨fun h18z => ?_, fun h18z => ?_⟩
                  · skip
                    intro x28 ex28
                    refine ⟨fun h20z => ?_, fun h20z => ?_⟩
                    · skip
                      intro x31 ex31
                      refine ⟨fun h22z => ?_, fun h22z => ?_⟩
                      · skip
                        intro x34 ex34
                        refine ⟨fun h24z => ?_, fun h24z => ?_⟩
                        · skip
                          intro x37 ex37
                          refine ⟨fun h26z => ?_, fun h26z => ?_⟩
                          · skip
                            intro x40 ex40
                            refine ⟨fun h28z => ?_, fun h28z => ?_⟩
                            · skip
                              intro x43 ex43
                              refine ⟨fun h30z => ?_, fun h30z => ?_⟩
                              · skip
                                intro x46 ex46
                                refine ⟨fun h32z => ?_, fun h32z => ?_⟩
                                · skip
                                  intro x49 ex49
                                  refine ⟨fun h34z => ?_, fun h34z => ?_⟩
                                  · skip
                                    intro x52 ex52
                                    refine ⟨fun h36z => ?_, fun h36z => ?_⟩
                                    · skip
                                      intro x55 ex55
                                      refine ⟨fun h38z => ?_, fun h38z => ?_⟩
                                      · skip
                                        intro x58 ex58
                                        refine ⟨fun h40z => ?_, fun h40z => ?_⟩
                                        · skip
                                          intro x61 ex61
                                          refine ⟨fun h42z => ?_, fun h42z => ?_⟩
                                          · skip
                                            intro x64 ex64
                                            refine ⟨fun h44z => ?_, fun h44z => ?_⟩
                                            · skip
                                              intro x67 ex67
                                              refine ⟨fun h46z => ?_, fun h46z => ?_⟩
                                              · skip
                                                intro x70 ex70
                                                refine ⟨fun h48z => ?_, fun h48z => ?_⟩
                                                · skip
                                                  intro x73 ex73
                                                  refine ⟨fun h50z => ?_, fun h50z => ?_⟩
                                                  · skip
                                                    intro x76 ex76
                                                    refine ⟨fun h52z => ?_, fun h52z => ?_⟩
                                                    · skip
                                                      intro x79 ex79
                                                      refine ⟨fun h54z => ?_, fun h54z => ?_⟩
                                                      · skip
                                                        trivial
                                                      · skip
                                                        trivial
                                                    · skip
                                                      trivial
                                                  · skip
                                                    trivial
                                                · skip
                                                  trivial
                                              · skip
                                                trivial
                                            · skip
                                              trivial
                                          · skip
                                            trivial
                                        · skip
                                          trivial
                                      · skip
                                        trivial
                                    · skip
                                      trivial
                                  · skip
                                    trivial
                                · skip
                                  trivial
                              · skip
                                trivial
                            · skip
                              trivial
                          · skip
                            trivial
                        · skip
                          trivial
                      · skip
                        trivial
                    · skip
                      trivial
                  · skip
                    trivial
                · skip
                  trivial
              · skip
                trivial
            · skip
              trivial
          · skip
            trivial
        · skip
          trivial
      · skip
        trivial
    · skip
      trivial
  · skip
    trivial
set_option maxHeartbeats 4000000 in
theorem w9_2320 {s0 : zF} {a0 : Int} : p_2320 s0 a0 (fun _ _ => True) := by
  refine ⟨fun g y2_1 v2_3 => True, fun g y44_1 v44_3 => True, ?_, ?_, ?_⟩
  · skip
    trivial
  · intro g y2_1 v2_3 rg o1 o2 hI
    intro x1 ex1 o4 o5 x8 ex8 o7 o8
    refine ⟨fun h9z => ?_, fun h9z => ?_⟩
    · skip
      intro x10 ex10 x12 ex12 y17 ey17 x18 ex18
      refine ⟨fun h14z => ?_, fun h14z => ?_⟩
      · skip
        intro x21 ex21
        trivial
      · skip
        trivial
    · skip
      trivial
  · intro g y44_1 v44_3 rg o1 o2 hI
    intro x23 ex23 o4 o5 x30 ex30 o7 o8
    refine ⟨fun h9z => ?_, fun h9z => ?_⟩
    · skip
      intro x32 ex32 x34 ex34 y39 ey39 x40 ex40
      refine ⟨fun h14z => ?_, fun h14z => ?_⟩
      · skip
        intro x43 ex43
        trivial
      · skip
        trivial
    · skip
      trivial
set_option maxHeartbeats 4000000 in
theorem w9_2310 {s0 : zF} : p_2310 s0 (fun g => K89 s0 g) := by
  refine ⟨fun g v5_1 => K89 s0 g, fun g v41_1 => K89 s0 g, fun g v85_1 v85_2 v85_3 => K89 s0 g, fun g v131_1 v131_2 v131_3 => K89 s0 g, fun g v200_1 v200_2 v200_3 v200_4 v200_5 => K89 s0 g, fun g v252_1 v252_2 v252_3 v252_4 v252_5 => K89 s0 g, fun g v282_1 v282_2 v282_3 v282_4 v282_5 => K89 s0 g, fun g v314_1 v314_2 v314_3 v314_4 v314_5 => K89 s0 g, fun g v323_1 => K89 s0 g, ?_, ?_, ?_, ?_, ?_, ?_, ?_, ?_, ?_, ?_⟩
  · skip
    intro x345 ex345 o2 o3
    have K0 : K89 s0 s0 := K89_refl
    exact K0
  · intro g v5_1 rg o1 o2 hI
    intro x1 ex1 o4 o5
    refine ⟨fun h6z => ?_, fun h6z => ?_⟩
    · skip
      intro x9 ex9 o8 o9
      refine ⟨fun h10z => ?_, fun h10z => ?_⟩
      · skip
        refine ⟨fun h11z => ?_, fun h11z => ?_⟩
        · skip
          have K0 : K89 s0 g := hI
          exact K0
        · skip
          intro x15 ex15
          have K0 : K89 s0 g := hI
          exact K0
      · skip
        intro x17 ex17
        have K0 : K89 s0 g := hI
        exact K0
    · skip
      have K0 : K89 s0 g := hI
      exact K0
  · intro g v41_1 rg o1 o2 hI
    intro g23 eg23 g28 eg28 g33 eg33 x34 ex34 o7 o8
    refine ⟨fun h9z => ?_, fun h9z => ?_⟩
    · skip
      intro x42 ex42 o11 o12
      refine ⟨fun h13z => ?_, fun h13z => ?_⟩
      · skip
        refine ⟨fun h14z => ?_, fun h14z => ?_⟩
        · skip
          have K0 : K89 s0 g := hI
          have K1 : K89 s0 g23 := K89_trans K0 (by rw [eg23]; exact K89_st (by omega))
          have K2 : K89 s0 g28 := K89_trans K1 (by rw [eg28]; exact K89_st (by omega))
          have K3 : K89 s0 g33 := K89_trans K2 (by rw [eg33]; exact K89_st (by omega))
          exact K3
        · skip
          refine ⟨fun h15z => ?_, fun h15z => ?_⟩
          · skip
            have K0 : K89 s0 g := hI
            have K1 : K89 s0 g23 := K89_trans K0 (by rw [eg23]; exact K89_st (by omega))
            have K2 : K89 s0 g28 := K89_trans K1 (by rw [eg28]; exact K89_st (by omega))
            have K3 : K89 s0 g33 := K89_trans K2 (by rw [eg33]; exact K89_st (by omega))
            exact K3
          · skip
            have K0 : K89 s0 g := hI
            have K1 : K89 s0 g23 := K89_trans K0 (by rw [eg23]; exact K89_st (by omega))
            have K2 : K89 s0 g28 := K89_trans K1 (by rw [eg28]; exact K89_st (by omega))
            have K3 : K89 s0 g33 := K89_trans K2 (by rw [eg33]; exact K89_st (by omega))
            exact K3
      · skip
        refine ⟨fun h14z => ?_, fun h14z => ?_⟩
        · skip
          have K0 : K89 s0 g := hI
          have K1 : K89 s0 g23 := K89_trans K0 (by rw [eg23]; exact K89_st (by omega))
          have K2 : K89 s0 g28 := K89_trans K1 (by rw [eg28]; exact K89_st (by omega))
          have K3 : K89 s0 g33 := K89_trans K2 (by rw [eg33]; exact K89_st (by omega))
          exact K3
        · skip
          have K0 : K89 s0 g := hI
          have K1 : K89 s0 g23 := K89_trans K0 (by rw [eg23]; exact K89_st (by omega))
          have K2 : K89 s0 g28 := K89_trans K1 (by rw [eg28]; exact K89_st (by omega))
          have K3 : K89 s0 g33 := K89_trans K2 (by rw [eg33]; exact K89_st (by omega))
          exact K3
    · skip
      have K0 : K89 s0 g := hI
      have K1 : K89 s0 g23 := K89_trans K0 (by rw [eg23]; exact K89_st (by omega))
      have K2 : K89 s0 g28 := K89_trans K1 (by rw [eg28]; exact K89_st (by omega))
      have K3 : K89 s0 g33 := K89_trans K2 (by rw [eg33]; exact K89_st (by omega))
      exact K3
  · intro g v85_1 v85_2 v85_3 rg o1 o2 o3 o4 o5 o6 hI
    refine ⟨fun h7z => ?_, fun h7z => ?_⟩
    · skip
      refine ⟨fun h8z => ?_, fun h8z => ?_⟩
      · skip
        intro x58 ex58 x63 ex63 o11 o12
        refine ⟨fun h13z => ?_, fun h13z => ?_⟩
        · skip
          intro x65 ex65 x70 ex70 o16 o17
          refine ⟨fun h18z => ?_, fun h18z => ?_⟩
          · skip
            have K0 : K89 s0 g := hI
            exact K0
          · skip
            refine ⟨fun h19z => ?_, fun h19z => ?_⟩
            · skip
              have K0 : K89 s0 g := hI
              exact K0
            · skip
              intro x73 ex73 o21 o22
              refine ⟨fun h23z => ?_, fun h23z => ?_⟩
              · skip
                have K0 : K89 s0 g := hI
                exact K0
              · skip
                intro g82 eg82 g87 eg87
                have K0 : K89 s0 g := hI
                have B1 : g82 386 8 = 1 := by rw [eg82, zup_eq]
                have K1 : K89 s0 g82 := K89_bl (v := 1) (by decide) B1
                have B2 : g87 386 8 = 1 := by
                  rw [eg87, zup_ne (Or.inr (by decide))]
                  exact B1
                have K2 : K89 s0 g87 := K89_bl (v := 1) (by decide) B2
                exact K2
        · skip
          refine ⟨fun h14z => ?_, fun h14z => ?_⟩
          · skip
            intro x89 ex89 x94 ex94 o17 o18
            refine ⟨fun h19z => ?_, fun h19z => ?_⟩
            · skip
              have K0 : K89 s0 g := hI
              exact K0
            · skip
              refine ⟨fun h20z => ?_, fun h20z => ?_⟩
              · skip
                have K0 : K89 s0 g := hI
                exact K0
              · skip
                intro x97 ex97 o22 o23
                refine ⟨fun h24z => ?_, fun h24z => ?_⟩
                · skip
                  have K0 : K89 s0 g := hI
                  exact K0
                · skip
                  intro g106 eg106 g111 eg111
                  have K0 : K89 s0 g := hI
                  have B1 : g106 386 8 = 1 := by rw [eg106, zup_eq]
                  have K1 : K89 s0 g106 := K89_bl (v := 1) (by decide) B1
                  have B2 : g111 386 8 = 1 := by
                    rw [eg111, zup_ne (Or.inr (by decide))]
                    exact B1
                  have K2 : K89 s0 g111 := K89_bl (v := 1) (by decide) B2
                  exact K2
          · skip
            intro x112 ex112 o16 o17
            refine ⟨fun h18z => ?_, fun h18z => ?_⟩
            · skip
              have K0 : K89 s0 g := hI
              exact K0
            · skip
              intro g121 eg121 g126 eg126
              have K0 : K89 s0 g := hI
              have B1 : g121 386 8 = 1 := by rw [eg121, zup_eq]
              have K1 : K89 s0 g121 := K89_bl (v := 1) (by decide) B1
              have B2 : g126 386 8 = 1 := by
                rw [eg126, zup_ne (Or.inr (by decide))]
                exact B1
              have K2 : K89 s0 g126 := K89_bl (v := 1) (by decide) B2
              exact K2
      · skip
        have K0 : K89 s0 g := hI
        exact K0
    · skip
      refine ⟨fun h8z => ?_, fun h8z => ?_⟩
      · skip
        refine ⟨fun h9z => ?_, fun h9z => ?_⟩
        · skip
          intro x129 ex129 x134 ex134 o12 o13
          refine ⟨fun h14z => ?_, fun h14z => ?_⟩
          · skip
            intro x136 ex136 x141 ex141 o17 o18
            refine ⟨fun h19z => ?_, fun h19z => ?_⟩
            · skip
              have K0 : K89 s0 g := hI
              exact K0
            · skip
              refine ⟨fun h20z => ?_, fun h20z => ?_⟩
              · skip
                have K0 : K89 s0 g := hI
                exact K0
              · skip
                intro x144 ex144 o22 o23
                refine ⟨fun h24z => ?_, fun h24z => ?_⟩
                · skip
                  have K0 : K89 s0 g := hI
                  exact K0
                · skip
                  intro g153 eg153 g158 eg158
                  have K0 : K89 s0 g := hI
                  have B1 : g153 386 8 = 1 := by rw [eg153, zup_eq]
                  have K1 : K89 s0 g153 := K89_bl (v := 1) (by decide) B1
                  have B2 : g158 386 8 = 1 := by
                    rw [eg158, zup_ne (Or.inr (by decide))]
                    exact B1
                  have K2 : K89 s0 g158 := K89_bl (v := 1) (by decide) B2
                  exact K2
          · skip
            refine ⟨fun h15z => ?_, fun h15z => ?_⟩
            · skip
              intro x160 ex160 x165 ex165 o18 o19
              refine ⟨fun h20z => ?_, fun h20z => ?_⟩
              · skip
                have K0 : K89 s0 g := hI
                exact K0
              · skip
                refine ⟨fun h21z => ?_, fun h21z => ?_⟩
                · skip
                  have K0 : K89 s0 g := hI
                  exact K0
                · skip
                  intro x168 ex168 o23 o24
                  refine ⟨fun h25z => ?_, fun h25z => ?_⟩
                  · skip
                    have K0 : K89 s0 g := hI
                    exact K0
                  · skip
                    intro g177 eg177 g182 eg182
                    have K0 : K89 s0 g := hI
                    have B1 : g177 386 8 = 1 := by rw [eg177, zup_eq]
                    have K1 : K89 s0 g177 := K89_bl (v := 1) (by decide) B1
                    have B2 : g182 386 8 = 1 := by
                      rw [eg182, zup_ne (Or.inr (by decide))]
                      exact B1
                    have K2 : K89 s0 g182 := K89_bl (v := 1) (by decide) B2
                    exact K2
            · skip
              intro x183 ex183 o17 o18
              refine ⟨fun h19z => ?_, fun h19z => ?_⟩
              · skip
                have K0 : K89 s0 g := hI
                exact K0
              · skip
                intro g192 eg192 g197 eg197
                have K0 : K89 s0 g := hI
                have B1 : g192 386 8 = 1 := by rw [eg192, zup_eq]
                have K1 : K89 s0 g192 := K89_bl (v := 1) (by decide) B1
                have B2 : g197 386 8 = 1 := by
                  rw [eg197, zup_ne (Or.inr (by decide))]
                  exact B1
                have K2 : K89 s0 g197 := K89_bl (v := 1) (by decide) B2
                exact K2
        · skip
          have K0 : K89 s0 g := hI
          exact K0
      · skip
        have K0 : K89 s0 g := hI
        exact K0
  · intro g v131_1 v131_2 v131_3 rg o1 o2 o3 o4 o5 o6 hI
    intro g202 eg202 g207 eg207 g212 eg212 x213 ex213 g219 eg219
    refine ⟨fun h12z => ?_, fun h12z => ?_⟩
    · skip
      intro g225 eg225
      have K0 : K89 s0 g := hI
      have K1 : K89 s0 g202 := K89_trans K0 (by rw [eg202]; exact K89_st (by omega))
      have K2 : K89 s0 g207 := K89_trans K1 (by rw [eg207]; exact K89_st (by omega))
      have K3 : K89 s0 g212 := K89_trans K2 (by rw [eg212]; exact K89_st (by omega))
      have K4 : K89 s0 g219 := K89_trans K3 (by rw [eg219]; exact K89_st (by omega))
      have K5 : K89 s0 g225 := K89_trans K4 (by rw [eg225]; exact K89_st (by omega))
      exact K5
    · skip
      refine ⟨fun h13z => ?_, fun h13z => ?_⟩
      · skip
        intro g231 eg231
        have K0 : K89 s0 g := hI
        have K1 : K89 s0 g202 := K89_trans K0 (by rw [eg202]; exact K89_st (by omega))
        have K2 : K89 s0 g207 := K89_trans K1 (by rw [eg207]; exact K89_st (by omega))
        have K3 : K89 s0 g212 := K89_trans K2 (by rw [eg212]; exact K89_st (by omega))
        have K4 : K89 s0 g219 := K89_trans K3 (by rw [eg219]; exact K89_st (by omega))
        have K5 : K89 s0 g231 := K89_trans K4 (by rw [eg231]; exact K89_st (by omega))
        exact K5
      · skip
        intro x235 ex235 o15 o16 g240 eg240
        have K0 : K89 s0 g := hI
        have K1 : K89 s0 g202 := K89_trans K0 (by rw [eg202]; exact K89_st (by omega))
        have K2 : K89 s0 g207 := K89_trans K1 (by rw [eg207]; exact K89_st (by omega))
        have K3 : K89 s0 g212 := K89_trans K2 (by rw [eg212]; exact K89_st (by omega))
        have K4 : K89 s0 g219 := K89_trans K3 (by rw [eg219]; exact K89_st (by omega))
        have K5 : K89 s0 g240 := K89_trans K4 (by rw [eg240]; exact K89_st (by omega))
        exact K5
  · intro g v200_1 v200_2 v200_3 v200_4 v200_5 rg o1 o2 o3 o4 o5 o6 o7 o8 o9 hI
    intro x241 ex241 o11 o12
    refine ⟨fun h13z => ?_, fun h13z => ?_⟩
    · skip
      refine ⟨fun h14z => ?_, fun h14z => ?_⟩
      · skip
        intro x250 ex250 o16 o17
        refine ⟨fun h18z => ?_, fun h18z => ?_⟩
        · skip
          have K0 : K89 s0 g := hI
          exact K0
        · skip
          refine ⟨fun h19z => ?_, fun h19z => ?_⟩
          · skip
            have K0 : K89 s0 g := hI
            exact K0
          · skip
            refine ⟨fun h20z => ?_, fun h20z => ?_⟩
            · skip
              have K0 : K89 s0 g := hI
              exact K0
            · skip
              intro x254 ex254 o22 o23
              refine ⟨fun h24z => ?_, fun h24z => ?_⟩
              · skip
                have K0 : K89 s0 g := hI
                exact K0
              · skip
                intro g263 eg263 g268 eg268
                have K0 : K89 s0 g := hI
                have B1 : g263 386 8 = 1 := by rw [eg263, zup_eq]
                have K1 : K89 s0 g263 := K89_bl (v := 1) (by decide) B1
                have B2 : g268 386 8 = 1 := by
                  rw [eg268, zup_ne (Or.inr (by decide))]
                  exact B1
                have K2 : K89 s0 g268 := K89_bl (v := 1) (by decide) B2
                exact K2
      · skip
        intro x272 ex272 o16 o17
        refine ⟨fun h18z => ?_, fun h18z => ?_⟩
        · skip
          have K0 : K89 s0 g := hI
          exact K0
        · skip
          refine ⟨fun h19z => ?_, fun h19z => ?_⟩
          · skip
            have K0 : K89 s0 g := hI
            exact K0
          · skip
            refine ⟨fun h20z => ?_, fun h20z => ?_⟩
            · skip
              have K0 : K89 s0 g := hI
              exact K0
            · skip
              intro x276 ex276 o22 o23
              refine ⟨fun h24z => ?_, fun h24z => ?_⟩
              · skip
                have K0 : K89 s0 g := hI
                exact K0
              · skip
                intro g285 eg285 g290 eg290
                have K0 : K89 s0 g := hI
                have B1 : g285 386 8 = 1 := by rw [eg285, zup_eq]
                have K1 : K89 s0 g285 := K89_bl (v := 1) (by decide) B1
                have B2 : g290 386 8 = 1 := by
                  rw [eg290, zup_ne (Or.inr (by decide))]
                  exact B1
                have K2 : K89 s0 g290 := K89_bl (v := 1) (by decide) B2
                exact K2
    · skip
      have K0 : K89 s0 g := hI
      exact K0
  · intro g v252_1 v252_2 v252_3 v252_4 v252_5 rg o1 o2 o3 o4 o5 o6 o7 o8 o9 hI
    refine ⟨fun h10z => ?_, fun h10z => ?_⟩
    · skip
      refine ⟨fun h11z => ?_, fun h11z => ?_⟩
      · skip
        intro y296 ey296 o13 y298 ey298 x303 ex303 o16 o17 y304 ey304 o19 y307 ey307 g313 eg313
        have K0 : K89 s0 g := hI
        have K1 : K89 s0 g313 := K89_trans K0 (by rw [eg313]; exact K89_st (by omega))
        exact K1
      · skip
        have K0 : K89 s0 g := hI
        exact K0
    · skip
      have K0 : K89 s0 g := hI
      exact K0
  · intro g v282_1 v282_2 v282_3 v282_4 v282_5 rg o1 o2 o3 o4 o5 o6 o7 o8 o9 hI
    refine ⟨fun h10z => ?_, fun h10z => ?_⟩
    · skip
      refine ⟨fun h11z => ?_, fun h11z => ?_⟩
      · skip
        intro x316 ex316 x321 ex321 x325 ex325 o15 o16 x327 ex327 x329 ex329 g334 eg334
        have K0 : K89 s0 g := hI
        have K1 : K89 s0 g334 := K89_trans K0 (by rw [eg334]; exact K89_st (by omega))
        exact K1
      · skip
        have K0 : K89 s0 g := hI
        exact K0
    · skip
      have K0 : K89 s0 g := hI
      exact K0
  · intro g v314_1 v314_2 v314_3 v314_4 v314_5 rg o1 o2 o3 o4 o5 o6 o7 o8 o9 hI
    intro o10 x336 ex336 x338 ex338
    have K0 : K89 s0 g := hI
    exact K0
  · intro g v323_1 rg o1 o2 hI
    intro g344 eg344
    have K0 : K89 s0 g := hI
    have K1 : K89 s0 g344 := K89_trans K0 (by rw [eg344]; exact K89_st (by omega))
    exact K1
set_option maxHeartbeats 4000000 in
theorem w9_2321 {s0 : zF} {a0 : Int} : p_2321 s0 a0 (fun g => K89 s0 g) := by
  unfold p_2321
  intro x1 ex1 o2 o3
  refine ⟨fun h4z => ?_, fun h4z => ?_⟩
  · skip
    have K0 : K89 s0 s0 := K89_refl
    exact K0
  · skip
    intro x6 ex6 o6 o7
    refine ⟨fun h8z => ?_, fun h8z => ?_⟩
    · skip
      intro x11 ex11 o10 o11 g19 eg19 g24 eg24
      have K0 : K89 s0 s0 := K89_refl
      have B1 : g19 386 8 = 1 := by rw [eg19, zup_eq]
      have K1 : K89 s0 g19 := K89_bl (v := 1) (by decide) B1
      have B2 : g24 386 8 = 1 := by
        rw [eg24, zup_ne (Or.inr (by decide))]
        exact B1
      have K2 : K89 s0 g24 := K89_bl (v := 1) (by decide) B2
      exact K2
    · skip
      intro y29 ey29 x30 ex30
      refine ⟨fun h11z => ?_, fun h11z => ?_⟩
      · skip
        intro x33 ex33 o13 o14 g41 eg41 g46 eg46
        have K0 : K89 s0 s0 := K89_refl
        have B1 : g41 386 8 = 1 := by rw [eg41, zup_eq]
        have K1 : K89 s0 g41 := K89_bl (v := 1) (by decide) B1
        have B2 : g46 386 8 = 1 := by
          rw [eg46, zup_ne (Or.inr (by decide))]
          exact B1
        have K2 : K89 s0 g46 := K89_bl (v := 1) (by decide) B2
        exact K2
      · skip
        refine ⟨fun g' => K89 s0 g', ?_, ?_⟩
        · skip
          exact w9_2310
        · skip
          intro g53 rg53 qg53
          have K0 : K89 s0 s0 := K89_refl
          have K1 : K89 s0 g53 := K89_trans K0 qg53
          exact K1
set_option maxHeartbeats 4000000 in
theorem w9_2322 {s0 : zF} {a0 : Int} {a1 : Int} : p_2322 s0 a0 a1 (fun _ g => K89 s0 g) := by
  unfold p_2322
  intro x1 ex1 o2 o3
  refine ⟨fun h4z => ?_, fun h4z => ?_⟩
  · skip
    have K0 : K89 s0 s0 := K89_refl
    exact K0
  · skip
    intro x6 ex6 o6 o7
    refine ⟨fun h8z => ?_, fun h8z => ?_⟩
    · skip
      intro x11 ex11 o10 o11 g19 eg19 g24 eg24 x26 ex26
      have K0 : K89 s0 s0 := K89_refl
      have B1 : g19 386 8 = 1 := by rw [eg19, zup_eq]
      have K1 : K89 s0 g19 := K89_bl (v := 1) (by decide) B1
      have B2 : g24 386 8 = 1 := by
        rw [eg24, zup_ne (Or.inr (by decide))]
        exact B1
      have K2 : K89 s0 g24 := K89_bl (v := 1) (by decide) B2
      exact K2
    · skip
      intro x30 ex30
      refine ⟨fun h10z => ?_, fun h10z => ?_⟩
      · skip
        intro x35 ex35 o12 o13 g43 eg43 g48 eg48
        have K0 : K89 s0 s0 := K89_refl
        have B1 : g43 386 8 = 4 := by rw [eg43, zup_eq]
        have K1 : K89 s0 g43 := K89_bl (v := 4) (by decide) B1
        have B2 : g48 386 8 = 4 := by
          rw [eg48, zup_ne (Or.inr (by decide))]
          exact B1
        have K2 : K89 s0 g48 := K89_bl (v := 4) (by decide) B2
        exact K2
      · skip
        refine ⟨fun h11z => ?_, fun h11z => ?_⟩
        · skip
          intro x52 ex52 o13 o14 g60 eg60 g65 eg65
          have K0 : K89 s0 s0 := K89_refl
          have B1 : g60 386 8 = 4 := by rw [eg60, zup_eq]
          have K1 : K89 s0 g60 := K89_bl (v := 4) (by decide) B1
          have B2 : g65 386 8 = 4 := by
            rw [eg65, zup_ne (Or.inr (by decide))]
            exact B1
          have K2 : K89 s0 g65 := K89_bl (v := 4) (by decide) B2
          exact K2
        · skip
          refine ⟨fun g' => K89 s0 g', ?_, ?_⟩
          · skip
            exact w9_2310
          · skip
            intro g73 rg73 qg73
            have K0 : K89 s0 s0 := K89_refl
            have K1 : K89 s0 g73 := K89_trans K0 qg73
            exact K1
set_option maxHeartbeats 4000000 in
theorem w9_2340 {s0 : zF} {a0 : Int} : p_2340 s0 a0 (fun g => K89 s0 g) := by
  unfold p_2340
  intro x1 ex1 o2 o3
  refine ⟨fun h4z => ?_, fun h4z => ?_⟩
  · skip
    intro x6 ex6 o6 o7 x10 ex10 o9 o10
    refine ⟨fun h11z => ?_, fun h11z => ?_⟩
    · skip
      have K0 : K89 s0 s0 := K89_refl
      exact K0
    · skip
      intro g19 eg19 g24 eg24
      have K0 : K89 s0 s0 := K89_refl
      have B1 : g19 386 8 = 1 := by rw [eg19, zup_eq]
      have K1 : K89 s0 g19 := K89_bl (v := 1) (by decide) B1
      have B2 : g24 386 8 = 1 := by
        rw [eg24, zup_ne (Or.inr (by decide))]
        exact B1
      have K2 : K89 s0 g24 := K89_bl (v := 1) (by decide) B2
      exact K2
  · skip
    intro x26 ex26
    refine ⟨fun h6z => ?_, fun h6z => ?_⟩
    · skip
      intro x31 ex31 o8 o9 x35 ex35 o11 o12
      refine ⟨fun h13z => ?_, fun h13z => ?_⟩
      · skip
        have K0 : K89 s0 s0 := K89_refl
        exact K0
      · skip
        intro g44 eg44 g49 eg49
        have K0 : K89 s0 s0 := K89_refl
        have B1 : g44 386 8 = 1 := by rw [eg44, zup_eq]
        have K1 : K89 s0 g44 := K89_bl (v := 1) (by decide) B1
        have B2 : g49 386 8 = 1 := by
          rw [eg49, zup_ne (Or.inr (by decide))]
          exact B1
        have K2 : K89 s0 g49 := K89_bl (v := 1) (by decide) B2
        exact K2
    · skip
      intro x51 ex51 o8 o9
      refine ⟨fun h10z => ?_, fun h10z => ?_⟩
      · skip
        have K0 : K89 s0 s0 := K89_refl
        exact K0
      · skip
        refine ⟨fun g' => K89 s0 g', ?_, ?_⟩
        · skip
          exact w9_2310
        · skip
          intro g61 rg61 qg61
          have K0 : K89 s0 s0 := K89_refl
          have K1 : K89 s0 g61 := K89_trans K0 qg61
          exact K1
set_option maxHeartbeats 4000000 in
theorem w9_2318 {s0 : zF} : p_2318 s0 (fun _ g => K89 s0 g) := by
  unfold p_2318
  intro x1 ex1 o2 o3
  refine ⟨fun h4z => ?_, fun h4z => ?_⟩
  · skip
    have K0 : K89 s0 s0 := K89_refl
    exact K0
  · skip
    intro x6 ex6 o6 o7
    refine ⟨fun h8z => ?_, fun h8z => ?_⟩
    · skip
      intro x11 ex11 o10 o11 g19 eg19 g24 eg24 y29 ey29
      have K0 : K89 s0 s0 := K89_refl
      have B1 : g19 386 8 = 1 := by rw [eg19, zup_eq]
      have K1 : K89 s0 g19 := K89_bl (v := 1) (by decide) B1
      have B2 : g24 386 8 = 1 := by
        rw [eg24, zup_ne (Or.inr (by decide))]
        exact B1
      have K2 : K89 s0 g24 := K89_bl (v := 1) (by decide) B2
      exact K2
    · skip
      intro y33 ey33
      refine ⟨fun _ _ => True, ?_, ?_⟩
      · skip
        exact w9_2319
      · skip
        intro x39 o10 o11 g42 rg42 qg42
        refine ⟨fun h14z => ?_, fun h14z => ?_⟩
        · skip
          intro x45 ex45 o16 o17 g54 eg54 g59 eg59
          have K0 : K89 s0 s0 := K89_refl
          have K1 : K89 s0 g42 := K89_trans K0 (K89_fr rg42 (by decide))
          have B2 : g54 386 8 = 1 := by rw [eg54, zup_eq]
          have K2 : K89 s0 g54 := K89_bl (v := 1) (by decide) B2
          have B3 : g59 386 8 = 1 := by
            rw [eg59, zup_ne (Or.inr (by decide))]
            exact B2
          have K3 : K89 s0 g59 := K89_bl (v := 1) (by decide) B3
          exact K3
        · skip
          refine ⟨fun _ _ => True, ?_, ?_⟩
          · skip
            exact w9_2320
          · skip
            intro x69 o15 o16 g72 rg72 qg72
            refine ⟨fun h19z => ?_, fun h19z => ?_⟩
            · skip
              intro x75 ex75 o21 o22 g84 eg84 g89 eg89
              have K0 : K89 s0 s0 := K89_refl
              have K1 : K89 s0 g42 := K89_trans K0 (K89_fr rg42 (by decide))
              have K2 : K89 s0 g72 := K89_trans K1 (K89_fr rg72 (by decide))
              have B3 : g84 386 8 = 2 := by rw [eg84, zup_eq]
              have K3 : K89 s0 g84 := K89_bl (v := 2) (by decide) B3
              have B4 : g89 386 8 = 2 := by
                rw [eg89, zup_ne (Or.inr (by decide))]
                exact B3
              have K4 : K89 s0 g89 := K89_bl (v := 2) (by decide) B4
              exact K4
            · skip
              refine ⟨fun g' => K89 g72 g', ?_, ?_⟩
              · skip
                exact w9_2310
              · skip
                intro g99 rg99 qg99
                have K0 : K89 s0 s0 := K89_refl
                have K1 : K89 s0 g42 := K89_trans K0 (K89_fr rg42 (by decide))
                have K2 : K89 s0 g72 := K89_trans K1 (K89_fr rg72 (by decide))
                have K3 : K89 s0 g99 := K89_trans K2 qg99
                exact K3
set_option maxHeartbeats 4000000 in
theorem w9_2324 {s0 : zF} {a0 : Int} : p_2324 s0 a0 (fun g => K89 s0 g) := by
  refine ⟨fun g v7_1 => K89 s0 g, fun g v67_1 v67_2 => K89 s0 g, ?_, ?_, ?_⟩
  · skip
    intro o1 g131 eg131
    have K0 : K89 s0 s0 := K89_refl
    have K1 : K89 s0 g131 := K89_trans K0 (by rw [eg131]; exact K89_st (by omega))
    exact K1
  · intro g v7_1 rg o1 o2 hI
    intro x1 ex1 o4 o5
    refine ⟨fun h6z => ?_, fun h6z => ?_⟩
    · skip
      have K0 : K89 s0 g := hI
      exact K0
    · skip
      intro x6 ex6 o8 o9
      refine ⟨fun h10z => ?_, fun h10z => ?_⟩
      · skip
        have K0 : K89 s0 g := hI
        exact K0
      · skip
        intro y14 ey14 x15 ex15
        refine ⟨fun h13z => ?_, fun h13z => ?_⟩
        · skip
          intro x18 ex18
          refine ⟨fun h15z => ?_, fun h15z => ?_⟩
          · skip
            have K0 : K89 s0 g := hI
            exact K0
          · skip
            intro x24 ex24 o17 o18 x26 ex26 o20 o21
            refine ⟨fun h22z => ?_, fun h22z => ?_⟩
            · skip
              have K0 : K89 s0 g := hI
              exact K0
            · skip
              intro x34 ex34 o24 o25 g41 eg41
              refine ⟨fun g' => K89 g41 g', ?_, ?_⟩
              · skip
                exact w9_2310
              · skip
                intro g48 rg48 qg48
                have K0 : K89 s0 g := hI
                have K1 : K89 s0 g41 := K89_trans K0 (by rw [eg41]; exact K89_st (by omega))
                have K2 : K89 s0 g48 := K89_trans K1 qg48
                exact K2
        · skip
          intro x53 ex53 o15 o16 x55 ex55 o18 o19
          refine ⟨fun h20z => ?_, fun h20z => ?_⟩
          · skip
            have K0 : K89 s0 g := hI
            exact K0
          · skip
            intro x63 ex63 o22 o23 g70 eg70
            refine ⟨fun g' => K89 g70 g', ?_, ?_⟩
            · skip
              exact w9_2310
            · skip
              intro g77 rg77 qg77
              have K0 : K89 s0 g := hI
              have K1 : K89 s0 g70 := K89_trans K0 (by rw [eg70]; exact K89_st (by omega))
              have K2 : K89 s0 g77 := K89_trans K1 qg77
              exact K2
  · intro g v67_1 v67_2 rg o1 o2 o3 o4 hI
    intro x79 ex79 o6 o7 x83 ex83 o9 o10
    refine ⟨fun h11z => ?_, fun h11z => ?_⟩
    · skip
      intro x91 ex91 o13 o14 x93 ex93 o16 o17 g100 eg100
      have K0 : K89 s0 g := hI
      have K1 : K89 s0 g100 := K89_trans K0 (by rw [eg100]; exact K89_st (by omega))
      exact K1
    · skip
      intro g106 eg106 g111 eg111 x115 ex115 o15 o16 x117 ex117 o18 o19 g124 eg124
      have K0 : K89 s0 g := hI
      have B1 : g106 386 8 = 1 := by rw [eg106, zup_eq]
      have K1 : K89 s0 g106 := K89_bl (v := 1) (by decide) B1
      have B2 : g111 386 8 = 1 := by
        rw [eg111, zup_ne (Or.inr (by decide))]
        exact B1
      have K2 : K89 s0 g111 := K89_bl (v := 1) (by decide) B2
      have K3 : K89 s0 g124 := K89_trans K2 (by rw [eg124]; exact K89_st (by omega))
      exact K3
set_option maxHeartbeats 4000000 in
theorem w9_2316 {s0 : zF} : p_2316 s0 (fun g => K89 s0 g) := by
  unfold p_2316
  intro x1 ex1 o2 o3 x8 ex8 o5 o6
  refine ⟨fun h7z => ?_, fun h7z => ?_⟩
  · skip
    intro x10 ex10 o9 o10
    refine ⟨fun h11z => ?_, fun h11z => ?_⟩
    · skip
      have K0 : K89 s0 s0 := K89_refl
      exact K0
    · skip
      refine ⟨fun g' => K89 s0 g', ?_, ?_⟩
      · skip
        exact w9_2310
      · skip
        intro g20 rg20 qg20 x22 ex22 o15 o16
        refine ⟨fun h17z => ?_, fun h17z => ?_⟩
        · skip
          have K0 : K89 s0 s0 := K89_refl
          have K1 : K89 s0 g20 := K89_trans K0 qg20
          exact K1
        · skip
          intro x28 ex28 x34 ex34
          refine ⟨fun _ g' => K89 g20 g', ?_, ?_⟩
          · skip
            exact w9_2318
          · skip
            intro y41 g42 rg42 qg42 g48 eg48
            refine ⟨fun g' => K89 g48 g', ?_, ?_⟩
            · skip
              exact w9_2321
            · skip
              intro g54 rg54 qg54
              refine ⟨fun _ g' => K89 g54 g', ?_, ?_⟩
              · skip
                exact w9_2322
              · skip
                intro x61 g64 rg64 qg64 g70 eg70
                refine ⟨fun g' => K89 g70 g', ?_, ?_⟩
                · skip
                  exact w9_2321
                · skip
                  intro g76 rg76 qg76
                  refine ⟨fun _ g' => K89 g76 g', ?_, ?_⟩
                  · skip
                    exact w9_2322
                  · skip
                    intro x83 g86 rg86 qg86 g92 eg92
                    refine ⟨fun g' => K89 g92 g', ?_, ?_⟩
                    · skip
                      exact w9_2321
                    · skip
                      intro g98 rg98 qg98
                      refine ⟨fun _ g' => K89 g98 g', ?_, ?_⟩
                      · skip
                        exact w9_2322
                      · skip
                        intro x105 g108 rg108 qg108 g114 eg114
                        refine ⟨fun g' => K89 g114 g', ?_, ?_⟩
                        · skip
                          exact w9_2321
                        · skip
                          intro g120 rg120 qg120
                          refine ⟨fun _ g' => K89 g120 g', ?_, ?_⟩
                          · skip
                            exact w9_2322
                          · skip
                            intro x127 g130 rg130 qg130 g136 eg136
                            refine ⟨fun g' => K89 g136 g', ?_, ?_⟩
                            · skip
                              exact w9_2324
                            · skip
                              intro g142 rg142 qg142 x144 ex144 o46 o47
                              refine ⟨fun h48z => ?_, fun h48z => ?_⟩
                              · skip
                                have K0 : K89 s0 s0 := K89_refl
                                have K1 : K89 s0 g20 := K89_trans K0 qg20
                                have K2 : K89 s0 g42 := K89_trans K1 qg42
                                have K3 : K89 s0 g48 := K89_trans K2 (by rw [eg48]; exact K89_st (by omega))
                                have K4 : K89 s0 g54 := K89_trans K3 qg54
                                have K5 : K89 s0 g64 := K89_trans K4 qg64
                                have K6 : K89 s0 g70 := K89_trans K5 (by rw [eg70]; exact K89_st (by omega))
                                have K7 : K89 s0 g76 := K89_trans K6 qg76
                                have K8 : K89 s0 g86 := K89_trans K7 qg86
                                have K9 : K89 s0 g92 := K89_trans K8 (by rw [eg92]; exact K89_st (by omega))
                                have K10 : K89 s0 g98 := K89_trans K9 qg98
                                have K11 : K89 s0 g108 := K89_trans K10 qg108
                                have K12 : K89 s0 g114 := K89_trans K11 (by rw [eg114]; exact K89_st (by omega))
                                have K13 : K89 s0 g120 := K89_trans K12 qg120
                                have K14 : K89 s0 g130 := K89_trans K13 qg130
                                have K15 : K89 s0 g136 := K89_trans K14 (by rw [eg136]; exact K89_st (by omega))
                                have K16 : K89 s0 g142 := K89_trans K15 qg142
                                exact K16
                              · skip
                                intro x154 ex154 g160 eg160
                                have K0 : K89 s0 s0 := K89_refl
                                have K1 : K89 s0 g20 := K89_trans K0 qg20
                                have K2 : K89 s0 g42 := K89_trans K1 qg42
                                have K3 : K89 s0 g48 := K89_trans K2 (by rw [eg48]; exact K89_st (by omega))
                                have K4 : K89 s0 g54 := K89_trans K3 qg54
                                have K5 : K89 s0 g64 := K89_trans K4 qg64
                                have K6 : K89 s0 g70 := K89_trans K5 (by rw [eg70]; exact K89_st (by omega))
                                have K7 : K89 s0 g76 := K89_trans K6 qg76
                                have K8 : K89 s0 g86 := K89_trans K7 qg86
                                have K9 : K89 s0 g92 := K89_trans K8 (by rw [eg92]; exact K89_st (by omega))
                                have K10 : K89 s0 g98 := K89_trans K9 qg98
                                have K11 : K89 s0 g108 := K89_trans K10 qg108
                                have K12 : K89 s0 g114 := K89_trans K11 (by rw [eg114]; exact K89_st (by omega))
                                have K13 : K89 s0 g120 := K89_trans K12 qg120
                                have K14 : K89 s0 g130 := K89_trans K13 qg130
                                have K15 : K89 s0 g136 := K89_trans K14 (by rw [eg136]; exact K89_st (by omega))
                                have K16 : K89 s0 g142 := K89_trans K15 qg142
                                have K17 : K89 s0 g160 := K89_trans K16 (by rw [eg160]; exact K89_st (by omega))
                                exact K17
  · skip
    intro x161 ex161 o9 o10
    refine ⟨fun h11z => ?_, fun h11z => ?_⟩
    · skip
      have K0 : K89 s0 s0 := K89_refl
      exact K0
    · skip
      intro x166 ex166 o13 o14 g174 eg174 g179 eg179
      have K0 : K89 s0 s0 := K89_refl
      have B1 : g174 386 8 = 5 := by rw [eg174, zup_eq]
      have K1 : K89 s0 g174 := K89_bl (v := 5) (by decide) B1
      have B2 : g179 386 8 = 5 := by
        rw [eg179, zup_ne (Or.inr (by decide))]
        exact B1
      have K2 : K89 s0 g179 := K89_bl (v := 5) (by decide) B2
      exact K2
set_option maxHeartbeats 4000000 in
theorem w9_2325 {s0 : zF} : p_2325 s0 (fun g => K89 s0 g) := by
  unfold p_2325
  intro x1 ex1 o2 o3
  refine ⟨fun h4z => ?_, fun h4z => ?_⟩
  · skip
    have K0 : K89 s0 s0 := K89_refl
    exact K0
  · skip
    refine ⟨fun g' => K89 s0 g', ?_, ?_⟩
    · skip
      exact w9_2310
    · skip
      intro g11 rg11 qg11 x13 ex13 o8 o9
      refine ⟨fun h10z => ?_, fun h10z => ?_⟩
      · skip
        have K0 : K89 s0 s0 := K89_refl
        have K1 : K89 s0 g11 := K89_trans K0 qg11
        exact K1
      · skip
        refine ⟨fun _ g' => K89 g11 g', ?_, ?_⟩
        · skip
          exact w9_2322
        · skip
          intro x23 g26 rg26 qg26
          refine ⟨fun g' => K89 g26 g', ?_, ?_⟩
          · skip
            exact w9_2321
          · skip
            intro g33 rg33 qg33
            refine ⟨fun _ g' => K89 g33 g', ?_, ?_⟩
            · skip
              exact w9_2322
            · skip
              intro x40 g43 rg43 qg43 x45 ex45 o18 o19
              refine ⟨fun h20z => ?_, fun h20z => ?_⟩
              · skip
                have K0 : K89 s0 s0 := K89_refl
                have K1 : K89 s0 g11 := K89_trans K0 qg11
                have K2 : K89 s0 g26 := K89_trans K1 qg26
                have K3 : K89 s0 g33 := K89_trans K2 qg33
                have K4 : K89 s0 g43 := K89_trans K3 qg43
                exact K4
              · skip
                intro x50 ex50 o22 o23 x54 ex54 o25 x57 ex57 o27 g64 eg64
                have K0 : K89 s0 s0 := K89_refl
                have K1 : K89 s0 g11 := K89_trans K0 qg11
                have K2 : K89 s0 g26 := K89_trans K1 qg26
                have K3 : K89 s0 g33 := K89_trans K2 qg33
                have K4 : K89 s0 g43 := K89_trans K3 qg43
                have K5 : K89 s0 g64 := K89_trans K4 (by rw [eg64]; exact K89_st (by omega))
                exact K5
set_option maxHeartbeats 4000000 in
theorem w9_2326 {s0 : zF} : p_2326 s0 (fun g => K89 s0 g) := by
  unfold p_2326
  intro x1 ex1 o2 o3 x8 ex8 o5 o6
  refine ⟨fun h7z => ?_, fun h7z => ?_⟩
  · skip
    intro x10 ex10 o9 o10
    refine ⟨fun h11z => ?_, fun h11z => ?_⟩
    · skip
      have K0 : K89 s0 s0 := K89_refl
      exact K0
    · skip
      refine ⟨fun g' => K89 s0 g', ?_, ?_⟩
      · skip
        exact w9_2310
      · skip
        intro g20 rg20 qg20 x22 ex22 o15 o16
        refine ⟨fun h17z => ?_, fun h17z => ?_⟩
        · skip
          have K0 : K89 s0 s0 := K89_refl
          have K1 : K89 s0 g20 := K89_trans K0 qg20
          exact K1
        · skip
          intro x28 ex28 x34 ex34
          refine ⟨fun _ g' => K89 g20 g', ?_, ?_⟩
          · skip
            exact w9_2318
          · skip
            intro y41 g42 rg42 qg42 g48 eg48
            refine ⟨fun g' => K89 g48 g', ?_, ?_⟩
            · skip
              exact w9_2321
            · skip
              intro g54 rg54 qg54
              refine ⟨fun _ g' => K89 g54 g', ?_, ?_⟩
              · skip
                exact w9_2322
              · skip
                intro x61 g64 rg64 qg64 g70 eg70
                refine ⟨fun g' => K89 g70 g', ?_, ?_⟩
                · skip
                  exact w9_2321
                · skip
                  intro g76 rg76 qg76
                  refine ⟨fun _ g' => K89 g76 g', ?_, ?_⟩
                  · skip
                    exact w9_2322
                  · skip
                    intro x83 g86 rg86 qg86 g92 eg92
                    refine ⟨fun g' => K89 g92 g', ?_, ?_⟩
                    · skip
                      exact w9_2321
                    · skip
                      intro g98 rg98 qg98
                      refine ⟨fun _ g' => K89 g98 g', ?_, ?_⟩
                      · skip
                        exact w9_2322
                      · skip
                        intro x105 g108 rg108 qg108 g114 eg114
                        refine ⟨fun g' => K89 g114 g', ?_, ?_⟩
                        · skip
                          exact w9_2321
                        · skip
                          intro g120 rg120 qg120
                          refine ⟨fun _ g' => K89 g120 g', ?_, ?_⟩
                          · skip
                            exact w9_2322
                          · skip
                            intro x127 g130 rg130 qg130 g136 eg136 x137 ex137 o44 o45
                            refine ⟨fun h46z => ?_, fun h46z => ?_⟩
                            · skip
                              have K0 : K89 s0 s0 := K89_refl
                              have K1 : K89 s0 g20 := K89_trans K0 qg20
                              have K2 : K89 s0 g42 := K89_trans K1 qg42
                              have K3 : K89 s0 g48 := K89_trans K2 (by rw [eg48]; exact K89_st (by omega))
                              have K4 : K89 s0 g54 := K89_trans K3 qg54
                              have K5 : K89 s0 g64 := K89_trans K4 qg64
                              have K6 : K89 s0 g70 := K89_trans K5 (by rw [eg70]; exact K89_st (by omega))
                              have K7 : K89 s0 g76 := K89_trans K6 qg76
                              have K8 : K89 s0 g86 := K89_trans K7 qg86
                              have K9 : K89 s0 g92 := K89_trans K8 (by rw [eg92]; exact K89_st (by omega))
                              have K10 : K89 s0 g98 := K89_trans K9 qg98
                              have K11 : K89 s0 g108 := K89_trans K10 qg108
                              have K12 : K89 s0 g114 := K89_trans K11 (by rw [eg114]; exact K89_st (by omega))
                              have K13 : K89 s0 g120 := K89_trans K12 qg120
                              have K14 : K89 s0 g130 := K89_trans K13 qg130
                              have K15 : K89 s0 g136 := K89_trans K14 (by rw [eg136]; exact K89_st (by omega))
                              exact K15
                            · skip
                              intro x147 ex147 g153 eg153
                              have K0 : K89 s0 s0 := K89_refl
                              have K1 : K89 s0 g20 := K89_trans K0 qg20
                              have K2 : K89 s0 g42 := K89_trans K1 qg42
                              have K3 : K89 s0 g48 := K89_trans K2 (by rw [eg48]; exact K89_st (by omega))
                              have K4 : K89 s0 g54 := K89_trans K3 qg54
                              have K5 : K89 s0 g64 := K89_trans K4 qg64
                              have K6 : K89 s0 g70 := K89_trans K5 (by rw [eg70]; exact K89_st (by omega))
                              have K7 : K89 s0 g76 := K89_trans K6 qg76
                              have K8 : K89 s0 g86 := K89_trans K7 qg86
                              have K9 : K89 s0 g92 := K89_trans K8 (by rw [eg92]; exact K89_st (by omega))
                              have K10 : K89 s0 g98 := K89_trans K9 qg98
                              have K11 : K89 s0 g108 := K89_trans K10 qg108
                              have K12 : K89 s0 g114 := K89_trans K11 (by rw [eg114]; exact K89_st (by omega))
                              have K13 : K89 s0 g120 := K89_trans K12 qg120
                              have K14 : K89 s0 g130 := K89_trans K13 qg130
                              have K15 : K89 s0 g136 := K89_trans K14 (by rw [eg136]; exact K89_st (by omega))
                              have K16 : K89 s0 g153 := K89_trans K15 (by rw [eg153]; exact K89_st (by omega))
                              exact K16
  · skip
    intro x154 ex154 o9 o10
    refine ⟨fun h11z => ?_, fun h11z => ?_⟩
    · skip
      have K0 : K89 s0 s0 := K89_refl
      exact K0
    · skip
      intro x159 ex159 o13 o14 g167 eg167 g172 eg172
      have K0 : K89 s0 s0 := K89_refl
      have B1 : g167 386 8 = 5 := by rw [eg167, zup_eq]
      have K1 : K89 s0 g167 := K89_bl (v := 5) (by decide) B1
      have B2 : g172 386 8 = 5 := by
        rw [eg172, zup_ne (Or.inr (by decide))]
        exact B1
      have K2 : K89 s0 g172 := K89_bl (v := 5) (by decide) B2
      exact K2
set_option maxHeartbeats 4000000 in
theorem w9_2329 {s0 : zF} {a0 : Int} : p_2329 s0 a0 (fun g => K89 s0 g) := by
  unfold p_2329
  intro x1 ex1 o2 o3 o4 o5 g11 eg11 g17 eg17 g23 eg23 x25 ex25 o10 o11 g33 eg33 x35 ex35 g41 eg41
  have K0 : K89 s0 s0 := K89_refl
  have K1 : K89 s0 g11 := K89_trans K0 (by rw [eg11]; exact K89_st (by omega))
  have K2 : K89 s0 g17 := K89_trans K1 (by rw [eg17]; exact K89_st (by omega))
  have K3 : K89 s0 g23 := K89_trans K2 (by rw [eg23]; exact K89_st (by omega))
  have K4 : K89 s0 g33 := K89_trans K3 (by rw [eg33]; exact K89_st (by omega))
  have K5 : K89 s0 g41 := K89_trans K4 (by rw [eg41]; exact K89_st (by omega))
  exact K5
set_option maxHeartbeats 4000000 in
theorem w9_2334 {s0 : zF} {a0 : Int} : p_2334 s0 a0 (fun g => K89 s0 g) := by
  unfold p_2334
  intro x1 ex1 o2 o3
  refine ⟨fun h4z => ?_, fun h4z => ?_⟩
  · skip
    intro x6 ex6 o6 o7
    refine ⟨fun h8z => ?_, fun h8z => ?_⟩
    · skip
      have K0 : K89 s0 s0 := K89_refl
      exact K0
    · skip
      intro x11 ex11 g17 eg17
      refine ⟨fun g' => K89 g17 g', ?_, ?_⟩
      · skip
        exact w9_2310
      · skip
        intro g23 rg23 qg23
        refine ⟨fun g' => K89 g23 g', ?_, ?_⟩
        · skip
          exact w9_2329
        · skip
          intro g30 rg30 qg30
          have K0 : K89 s0 s0 := K89_refl
          have K1 : K89 s0 g17 := K89_trans K0 (by rw [eg17]; exact K89_st (by omega))
          have K2 : K89 s0 g23 := K89_trans K1 qg23
          have K3 : K89 s0 g30 := K89_trans K2 qg30
          exact K3
  · skip
    intro x32 ex32 o6 o7 x36 ex36 o9 o10
    refine ⟨fun h11z => ?_, fun h11z => ?_⟩
    · skip
      have K0 : K89 s0 s0 := K89_refl
      exact K0
    · skip
      intro g45 eg45 g50 eg50
      have K0 : K89 s0 s0 := K89_refl
      have B1 : g45 386 8 = 5 := by rw [eg45, zup_eq]
      have K1 : K89 s0 g45 := K89_bl (v := 5) (by decide) B1
      have B2 : g50 386 8 = 5 := by
        rw [eg50, zup_ne (Or.inr (by decide))]
        exact B1
      have K2 : K89 s0 g50 := K89_bl (v := 5) (by decide) B2
      exact K2
set_option maxHeartbeats 4000000 in
theorem w9_2330 {s0 : zF} : p_2330 s0 (fun _ g => K89 s0 g) := by
  refine ⟨fun g v34_1 v34_2 => K89 s0 g, fun g v60_1 v60_2 => K89 s0 g, fun g v87_1 v87_2 => K89 s0 g, fun g  => K89 s0 g, fun g  => K89 s0 g, fun g  => K89 s0 g, fun g v175_3 => K89 s0 g, fun g v197_3 => K89 s0 g, fun g  => K89 s0 g, fun g v337_3 => K89 s0 g, ?_, ?_, ?_, ?_, ?_, ?_, ?_, ?_, ?_, ?_, ?_⟩
  · skip
    intro x382 ex382 o2 o3 x386 ex386 o5 x392 ex392 o7 o8
    refine ⟨fun h9z => ?_, fun h9z => ?_⟩
    · skip
      refine ⟨fun h10z => ?_, fun h10z => ?_⟩
      · skip
        have K0 : K89 s0 s0 := K89_refl
        exact K0
      · skip
        intro x398 ex398 o12 o13
        refine ⟨fun h14z => ?_, fun h14z => ?_⟩
        · skip
          have K0 : K89 s0 s0 := K89_refl
          exact K0
        · skip
          have K0 : K89 s0 s0 := K89_refl
          exact K0
    · skip
      intro x403 ex403 o11 o12
      refine ⟨fun h13z => ?_, fun h13z => ?_⟩
      · skip
        have K0 : K89 s0 s0 := K89_refl
        exact K0
      · skip
        have K0 : K89 s0 s0 := K89_refl
        exact K0
  · intro g v34_1 v34_2 rg o1 o2 o3 o4 hI
    refine ⟨fun h5z => ?_, fun h5z => ?_⟩
    · skip
      intro x2 ex2 o7 o8
      refine ⟨fun h9z => ?_, fun h9z => ?_⟩
      · skip
        have K0 : K89 s0 g := hI
        exact K0
      · skip
        intro y10 ey10 x11 ex11
        refine ⟨fun h12z => ?_, fun h12z => ?_⟩
        · skip
          have K0 : K89 s0 g := hI
          exact K0
        · skip
          intro g19 rg19
          refine ⟨fun g' => K89 g19 g', ?_, ?_⟩
          · skip
            exact w9_2310
          · skip
            intro g26 rg26 qg26
            have K0 : K89 s0 g := hI
            have K1 : K89 s0 g19 := K89_trans K0 (K89_fr rg19 (by decide))
            have K2 : K89 s0 g26 := K89_trans K1 qg26
            exact K2
    · skip
      have K0 : K89 s0 g := hI
      exact K0
  · intro g v60_1 v60_2 rg o1 o2 o3 o4 hI
    intro g32 eg32
    refine ⟨fun h6z => ?_, fun h6z => ?_⟩
    · skip
      intro x34 ex34 o8 o9
      refine ⟨fun h10z => ?_, fun h10z => ?_⟩
      · skip
        have K0 : K89 s0 g := hI
        have K1 : K89 s0 g32 := K89_trans K0 (by rw [eg32]; exact K89_st (by omega))
        exact K1
      · skip
        intro x39 ex39
        refine ⟨fun h12z => ?_, fun h12z => ?_⟩
        · skip
          have K0 : K89 s0 g := hI
          have K1 : K89 s0 g32 := K89_trans K0 (by rw [eg32]; exact K89_st (by omega))
          exact K1
        · skip
          refine ⟨fun g' => K89 g32 g', ?_, ?_⟩
          · skip
            exact w9_2334
          · skip
            intro g49 rg49 qg49
            have K0 : K89 s0 g := hI
            have K1 : K89 s0 g32 := K89_trans K0 (by rw [eg32]; exact K89_st (by omega))
            have K2 : K89 s0 g49 := K89_trans K1 qg49
            exact K2
    · skip
      have K0 : K89 s0 g := hI
      have K1 : K89 s0 g32 := K89_trans K0 (by rw [eg32]; exact K89_st (by omega))
      exact K1
  · intro g v87_1 v87_2 rg o1 o2 o3 o4 hI
    refine ⟨fun h5z => ?_, fun h5z => ?_⟩
    · skip
      intro x52 ex52 o7 o8
      refine ⟨fun h9z => ?_, fun h9z => ?_⟩
      · skip
        have K0 : K89 s0 g := hI
        exact K0
      · skip
        intro y60 ey60 x61 ex61
        refine ⟨fun h12z => ?_, fun h12z => ?_⟩
        · skip
          have K0 : K89 s0 g := hI
          exact K0
        · skip
          intro g69 rg69 g75 eg75
          refine ⟨fun g' => K89 g75 g', ?_, ?_⟩
          · skip
            exact w9_2310
          · skip
            intro g81 rg81 qg81
            have K0 : K89 s0 g := hI
            have K1 : K89 s0 g69 := K89_trans K0 (K89_fr rg69 (by decide))
            have K2 : K89 s0 g75 := K89_trans K1 (by rw [eg75]; exact K89_st (by omega))
            have K3 : K89 s0 g81 := K89_trans K2 qg81
            exact K3
    · skip
      have K0 : K89 s0 g := hI
      exact K0
  · intro g  rg hI
    intro x83 ex83 o2 o3
    refine ⟨fun h4z => ?_, fun h4z => ?_⟩
    · skip
      have K0 : K89 s0 g := hI
      exact K0
    · skip
      intro x88 ex88
      refine ⟨fun h6z => ?_, fun h6z => ?_⟩
      · skip
        have K0 : K89 s0 g := hI
        exact K0
      · skip
        refine ⟨fun g' => K89 g g', ?_, ?_⟩
        · skip
          exact w9_2334
        · skip
          intro g98 rg98 qg98
          have K0 : K89 s0 g := hI
          have K1 : K89 s0 g98 := K89_trans K0 qg98
          exact K1
  · intro g  rg hI
    intro x100 ex100 o2 o3
    refine ⟨fun h4z => ?_, fun h4z => ?_⟩
    · skip
      refine ⟨fun h5z => ?_, fun h5z => ?_⟩
      · skip
        have K0 : K89 s0 g := hI
        exact K0
      · skip
        intro y109 ey109 x110 ex110
        refine ⟨fun h8z => ?_, fun h8z => ?_⟩
        · skip
          have K0 : K89 s0 g := hI
          exact K0
        · skip
          have K0 : K89 s0 g := hI
          exact K0
    · skip
      intro y116 ey116 x117 ex117
      refine ⟨fun h7z => ?_, fun h7z => ?_⟩
      · skip
        intro x120 ex120
        refine ⟨fun h9z => ?_, fun h9z => ?_⟩
        · skip
          have K0 : K89 s0 g := hI
          exact K0
        · skip
          have K0 : K89 s0 g := hI
          exact K0
      · skip
        have K0 : K89 s0 g := hI
        exact K0
  · intro g  rg hI
    intro x123 ex123 o2 o3
    refine ⟨fun h4z => ?_, fun h4z => ?_⟩
    · skip
      have K0 : K89 s0 g := hI
      exact K0
    · skip
      intro y131 ey131 x132 ex132
      refine ⟨fun h7z => ?_, fun h7z => ?_⟩
      · skip
        have K0 : K89 s0 g := hI
        exact K0
      · skip
        have K0 : K89 s0 g := hI
        exact K0
  · intro g v175_3 rg o1 o2 hI
    refine ⟨fun g' => K89 g g', ?_, ?_⟩
    · skip
      exact w9_2310
    · skip
      intro g140 rg140 qg140 x142 ex142 o6 o7
      refine ⟨fun h8z => ?_, fun h8z => ?_⟩
      · skip
        intro x147 ex147 o10 o11 x151 ex151 o13 o14
        refine ⟨fun h15z => ?_, fun h15z => ?_⟩
        · skip
          have K0 : K89 s0 g := hI
          have K1 : K89 s0 g140 := K89_trans K0 qg140
          exact K1
        · skip
          intro g160 eg160 g165 eg165
          have K0 : K89 s0 g := hI
          have K1 : K89 s0 g140 := K89_trans K0 qg140
          have B2 : g160 386 8 = 1 := by rw [eg160, zup_eq]
          have K2 : K89 s0 g160 := K89_bl (v := 1) (by decide) B2
          have B3 : g165 386 8 = 1 := by
            rw [eg165, zup_ne (Or.inr (by decide))]
            exact B2
          have K3 : K89 s0 g165 := K89_bl (v := 1) (by decide) B3
          exact K3
      · skip
        intro x166 ex166
        refine ⟨fun h10z => ?_, fun h10z => ?_⟩
        · skip
          intro x171 ex171 o12 o13 x175 ex175 o15 o16
          refine ⟨fun h17z => ?_, fun h17z => ?_⟩
          · skip
            have K0 : K89 s0 g := hI
            have K1 : K89 s0 g140 := K89_trans K0 qg140
            exact K1
          · skip
            intro g184 eg184 g189 eg189
            have K0 : K89 s0 g := hI
            have K1 : K89 s0 g140 := K89_trans K0 qg140
            have B2 : g184 386 8 = 1 := by rw [eg184, zup_eq]
            have K2 : K89 s0 g184 := K89_bl (v := 1) (by decide) B2
            have B3 : g189 386 8 = 1 := by
              rw [eg189, zup_ne (Or.inr (by decide))]
              exact B2
            have K3 : K89 s0 g189 := K89_bl (v := 1) (by decide) B3
            exact K3
        · skip
          have K0 : K89 s0 g := hI
          have K1 : K89 s0 g140 := K89_trans K0 qg140
          exact K1
  · intro g v197_3 rg o1 o2 hI
    refine ⟨fun g' => K89 g g', ?_, ?_⟩
    · skip
      exact w9_2334
    · skip
      intro g195 rg195 qg195 x197 ex197 o6 o7
      refine ⟨fun h8z => ?_, fun h8z => ?_⟩
      · skip
        have K0 : K89 s0 g := hI
        have K1 : K89 s0 g195 := K89_trans K0 qg195
        exact K1
      · skip
        intro x202 ex202 o10 o11 x206 ex206 o13 g213 eg213
        have K0 : K89 s0 g := hI
        have K1 : K89 s0 g195 := K89_trans K0 qg195
        have K2 : K89 s0 g213 := K89_trans K1 (by rw [eg213]; exact K89_st (by omega))
        exact K2
  · intro g  rg hI
    intro x214 ex214 o2 o3
    refine ⟨fun h4z => ?_, fun h4z => ?_⟩
    · skip
      refine ⟨fun h5z => ?_, fun h5z => ?_⟩
      · skip
        refine ⟨fun h6z => ?_, fun h6z => ?_⟩
        · skip
          refine ⟨fun h7z => ?_, fun h7z => ?_⟩
          · skip
            refine ⟨fun h8z => ?_, fun h8z => ?_⟩
            · skip
              refine ⟨fun h9z => ?_, fun h9z => ?_⟩
              · skip
                refine ⟨fun h10z => ?_, fun h10z => ?_⟩
                · skip
                  refine ⟨fun h11z => ?_, fun h11z => ?_⟩
                  · skip
                    have K0 : K89 s0 g := hI
                    exact K0
                  · skip
                    intro y229 ey229 x230 ex230
                    refine ⟨fun h14z => ?_, fun h14z => ?_⟩
                    · skip
                      have K0 : K89 s0 g := hI
                      exact K0
                    · skip
                      have K0 : K89 s0 g := hI
                      exact K0
                · skip
                  intro y236 ey236 x237 ex237
                  refine ⟨fun h13z => ?_, fun h13z => ?_⟩
                  · skip
                    intro x240 ex240
                    refine ⟨fun h15z => ?_, fun h15z => ?_⟩
                    · skip
                      have K0 : K89 s0 g := hI
                      exact K0
                    · skip
                      have K0 : K89 s0 g := hI
                      exact K0
                  · skip
                    have K0 : K89 s0 g := hI
                    exact K0
              · skip
                intro y246 ey246 x247 ex247
                refine ⟨fun h12z => ?_, fun h12z => ?_⟩
                · skip
                  intro x250 ex250
                  refine ⟨fun h14z => ?_, fun h14z => ?_⟩
                  · skip
                    intro x253 ex253
                    refine ⟨fun h16z => ?_, fun h16z => ?_⟩
                    · skip
                      have K0 : K89 s0 g := hI
                      exact K0
                    · skip
                      have K0 : K89 s0 g := hI
                      exact K0
                  · skip
                    have K0 : K89 s0 g := hI
                    exact K0
                · skip
                  have K0 : K89 s0 g := hI
                  exact K0
            · skip
              intro y259 ey259 x260 ex260
              refine ⟨fun h11z => ?_, fun h11z => ?_⟩
              · skip
                intro x263 ex263
                refine ⟨fun h13z => ?_, fun h13z => ?_⟩
                · skip
                  intro x266 ex266
                  refine ⟨fun h15z => ?_, fun h15z => ?_⟩
                  · skip
                    intro x269 ex269
                    refine ⟨fun h17z => ?_, fun h17z => ?_⟩
                    · skip
                      have K0 : K89 s0 g := hI
                      exact K0
                    · skip
                      have K0 : K89 s0 g := hI
                      exact K0
                  · skip
                    have K0 : K89 s0 g := hI
                    exact K0
                · skip
                  have K0 : K89 s0 g := hI
                  exact K0
              · skip
                have K0 : K89 s0 g := hI
                exact K0
          · skip
            intro y275 ey275 x276 ex276
            refine ⟨fun h10z => ?_, fun h10z => ?_⟩
            · skip
              intro x279 ex279
              refine ⟨fun h12z => ?_, fun h12z => ?_⟩
              · skip
                intro x282 ex282
                refine ⟨fun h14z => ?_, fun h14z => ?_⟩
                · skip
                  intro x285 ex285
                  refine ⟨fun h16z => ?_, fun h16z => ?_⟩
                  · skip
                    intro x288 ex288
                    refine ⟨fun h18z => ?_, fun h18z => ?_⟩
                    · skip
                      have K0 : K89 s0 g := hI
                      exact K0
                    · skip
                      have K0 : K89 s0 g := hI
                      exact K0
                  · skip
                    have K0 : K89 s0 g := hI
                    exact K0
                · skip
                  have K0 : K89 s0 g := hI
                  exact K0
              · skip
                have K0 : K89 s0 g := hI
                exact K0
            · skip
              have K0 : K89 s0 g := hI
              exact K0
        · skip
          intro y294 ey294 x295 ex295
          refine ⟨fun h9z => ?_, fun h9z => ?_⟩
          · skip
            intro x298 ex298
            refine ⟨fun h11z => ?_, fun h11z => ?_⟩
            · skip
              intro x301 ex301
              refine ⟨fun h13z => ?_, fun h13z => ?_⟩
              · skip
                intro x304 ex304
                refine ⟨fun h15z => ?_, fun h15z => ?_⟩
                · skip
                  intro x307 ex307
                  refine ⟨fun h17z => ?_, fun h17z => ?_⟩
                  · skip
                    intro x310 ex310
                    refine ⟨fun h19z => ?_, fun h19z => ?_⟩
                    · skip
                      have K0 : K89 s0 g := hI
                      exact K0
                    · skip
                      have K0 : K89 s0 g := hI
                      exact K0
                  · skip
                    have K0 : K89 s0 g := hI
                    exact K0
                · skip
                  have K0 : K89 s0 g := hI
                  exact K0
              · skip
                have K0 : K89 s0 g := hI
                exact K0
            · skip
              have K0 : K89 s0 g := hI
              exact K0
          · skip
            have K0 : K89 s0 g := hI
            exact K0
      · skip
        intro y316 ey316 x317 ex317
        refine ⟨fun h8z => ?_, fun h8z => ?_⟩
        · skip
          intro x320 ex320
          refine ⟨fun h10z => ?_, fun h10z => ?_⟩
          · skip
            intro x323 ex323
            refine ⟨fun h12z => ?_, fun h12z => ?_⟩
            · skip
              intro x326 ex326
              refine ⟨fun h14z => ?_, fun h14z => ?_⟩
              · skip
                intro x329 ex329
                refine ⟨fun h16z => ?_, fun h16z => ?_⟩
                · skip
                  intro x332 ex332
                  refine ⟨fun h18z => ?_, fun h18z => ?_⟩
                  · skip
                    intro x335 ex335
                    refine ⟨fun h20z => ?_, fun h20z => ?_⟩
                    · skip
                      have K0 : K89 s0 g := hI
                      exact K0
                    · skip
                      have K0 : K89 s0 g := hI
                      exact K0
                  · skip
                    have K0 : K89 s0 g := hI
                    exact K0
                · skip
                  have K0 : K89 s0 g := hI
                  exact K0
              · skip
                have K0 : K89 s0 g := hI
                exact K0
            · skip
              have K0 : K89 s0 g := hI
              exact K0
          · skip
            have K0 : K89 s0 g := hI
            exact K0
        · skip
          have K0 : K89 s0 g := hI
          exact K0
    · skip
      have K0 : K89 s0 g := hI
      exact K0
  · intro g v337_3 rg o1 o2 hI
    refine ⟨fun h3z => ?_, fun h3z => ?_⟩
    · skip
      intro x339 ex339 o5 o6
      refine ⟨fun h7z => ?_, fun h7z => ?_⟩
      · skip
        have K0 : K89 s0 g := hI
        exact K0
      · skip
        intro x344 ex344
        intro g353 rg353
        refine ⟨fun g' => K89 g353 g', ?_, ?_⟩
        · skip
          exact w9_2310
        · skip
          intro g360 rg360 qg360
          have K0 : K89 s0 g := hI
          have K1 : K89 s0 g353 := K89_trans K0 (K89_fr rg353 (by decide))
          have K2 : K89 s0 g360 := K89_trans K1 qg360
          exact K2
    · skip
      intro x362 ex362 o5 o6 x366 ex366 o8 o9
      refine ⟨fun h10z => ?_, fun h10z => ?_⟩
      · skip
        have K0 : K89 s0 g := hI
        exact K0
      · skip
        intro g375 eg375 g380 eg380
        have K0 : K89 s0 g := hI
        have B1 : g375 386 8 = 1 := by rw [eg375, zup_eq]
        have K1 : K89 s0 g375 := K89_bl (v := 1) (by decide) B1
        have B2 : g380 386 8 = 1 := by
          rw [eg380, zup_ne (Or.inr (by decide))]
          exact B1
        have K2 : K89 s0 g380 := K89_bl (v := 1) (by decide) B2
        exact K2
set_option maxHeartbeats 4000000 in
theorem w9_2336 {s0 : zF} : p_2336 s0 (fun _ g => K89 s0 g) := by
  refine ⟨fun g v19_1 v19_2 v19_3 => K89 s0 g, fun g v175_1 v175_2 v175_3 => K89 s0 g, fun g v272_1 v272_2 v272_3 => K89 s0 g, fun g v387_1 v387_2 v387_3 => K89 s0 g, fun g v409_1 v409_2 => K89 s0 g, ?_, ?_, ?_, ?_, ?_, ?_⟩
  · skip
    intro x949 ex949 o2 o3 x953 ex953 o5 x959 ex959 o7 o8
    refine ⟨fun h9z => ?_, fun h9z => ?_⟩
    · skip
      refine ⟨fun h10z => ?_, fun h10z => ?_⟩
      · skip
        have K0 : K89 s0 s0 := K89_refl
        exact K0
      · skip
        have K0 : K89 s0 s0 := K89_refl
        exact K0
    · skip
      have K0 : K89 s0 s0 := K89_refl
      exact K0
  · intro g v19_1 v19_2 v19_3 rg o1 o2 o3 o4 o5 o6 hI
    intro x4 ex4 o8 o9
    refine ⟨fun h10z => ?_, fun h10z => ?_⟩
    · skip
      intro x6 ex6 o12 o13
      refine ⟨fun h14z => ?_, fun h14z => ?_⟩
      · skip
        have K0 : K89 s0 g := hI
        exact K0
      · skip
        intro x11 ex11
        refine ⟨fun h16z => ?_, fun h16z => ?_⟩
        · skip
          refine ⟨fun h17z => ?_, fun h17z => ?_⟩
          · skip
            refine ⟨fun h18z => ?_, fun h18z => ?_⟩
            · skip
              refine ⟨fun h19z => ?_, fun h19z => ?_⟩
              · skip
                refine ⟨fun h20z => ?_, fun h20z => ?_⟩
                · skip
                  have K0 : K89 s0 g := hI
                  exact K0
                · skip
                  intro g25 rg25
                  intro g34 rg34
                  refine ⟨fun g' => K89 g34 g', ?_, ?_⟩
                  · skip
                    exact w9_2310
                  · skip
                    intro g41 rg41 qg41 g47 eg47
                    have K0 : K89 s0 g := hI
                    have K1 : K89 s0 g25 := K89_trans K0 (K89_fr rg25 (by decide))
                    have K2 : K89 s0 g34 := K89_trans K1 (K89_fr rg34 (by decide))
                    have K3 : K89 s0 g41 := K89_trans K2 qg41
                    have K4 : K89 s0 g47 := K89_trans K3 (by rw [eg47]; exact K89_st (by omega))
                    exact K4
              · skip
                intro g53 rg53
                intro g62 rg62
                refine ⟨fun g' => K89 g62 g', ?_, ?_⟩
                · skip
                  exact w9_2310
                · skip
                  intro g69 rg69 qg69 g75 eg75
                  have K0 : K89 s0 g := hI
                  have K1 : K89 s0 g53 := K89_trans K0 (K89_fr rg53 (by decide))
                  have K2 : K89 s0 g62 := K89_trans K1 (K89_fr rg62 (by decide))
                  have K3 : K89 s0 g69 := K89_trans K2 qg69
                  have K4 : K89 s0 g75 := K89_trans K3 (by rw [eg75]; exact K89_st (by omega))
                  exact K4
            · skip
              intro g81 rg81
              intro g90 rg90
              refine ⟨fun g' => K89 g90 g', ?_, ?_⟩
              · skip
                exact w9_2310
              · skip
                intro g97 rg97 qg97 g103 eg103
                have K0 : K89 s0 g := hI
                have K1 : K89 s0 g81 := K89_trans K0 (K89_fr rg81 (by decide))
                have K2 : K89 s0 g90 := K89_trans K1 (K89_fr rg90 (by decide))
                have K3 : K89 s0 g97 := K89_trans K2 qg97
                have K4 : K89 s0 g103 := K89_trans K3 (by rw [eg103]; exact K89_st (by omega))
                exact K4
          · skip
            intro g109 rg109
            intro g118 rg118
            refine ⟨fun g' => K89 g118 g', ?_, ?_⟩
            · skip
              exact w9_2310
            · skip
              intro g125 rg125 qg125 g131 eg131
              have K0 : K89 s0 g := hI
              have K1 : K89 s0 g109 := K89_trans K0 (K89_fr rg109 (by decide))
              have K2 : K89 s0 g118 := K89_trans K1 (K89_fr rg118 (by decide))
              have K3 : K89 s0 g125 := K89_trans K2 qg125
              have K4 : K89 s0 g131 := K89_trans K3 (by rw [eg131]; exact K89_st (by omega))
              exact K4
        · skip
          intro g137 rg137
          intro g146 rg146
          refine ⟨fun g' => K89 g146 g', ?_, ?_⟩
          · skip
            exact w9_2310
          · skip
            intro g153 rg153 qg153 g159 eg159
            have K0 : K89 s0 g := hI
            have K1 : K89 s0 g137 := K89_trans K0 (K89_fr rg137 (by decide))
            have K2 : K89 s0 g146 := K89_trans K1 (K89_fr rg146 (by decide))
            have K3 : K89 s0 g153 := K89_trans K2 qg153
            have K4 : K89 s0 g159 := K89_trans K3 (by rw [eg159]; exact K89_st (by omega))
            exact K4
    · skip
      have K0 : K89 s0 g := hI
      exact K0
  · intro g v175_1 v175_2 v175_3 rg o1 o2 o3 o4 o5 o6 hI
    refine ⟨fun h7z => ?_, fun h7z => ?_⟩
    · skip
      intro x164 ex164 o9 o10
      refine ⟨fun h11z => ?_, fun h11z => ?_⟩
      · skip
        have K0 : K89 s0 g := hI
        exact K0
      · skip
        intro x166 ex166 o13 o14
        refine ⟨fun h15z => ?_, fun h15z => ?_⟩
        · skip
          have K0 : K89 s0 g := hI
          exact K0
        · skip
          intro x171 ex171
          refine ⟨fun h17z => ?_, fun h17z => ?_⟩
          · skip
            refine ⟨fun h18z => ?_, fun h18z => ?_⟩
            · skip
              refine ⟨fun h19z => ?_, fun h19z => ?_⟩
              · skip
                have K0 : K89 s0 g := hI
                exact K0
              · skip
                intro g183 rg183
                intro g192 rg192 g198 eg198
                refine ⟨fun g' => K89 g198 g', ?_, ?_⟩
                · skip
                  exact w9_2310
                · skip
                  intro g204 rg204 qg204 g210 eg210
                  have K0 : K89 s0 g := hI
                  have K1 : K89 s0 g183 := K89_trans K0 (K89_fr rg183 (by decide))
                  have K2 : K89 s0 g192 := K89_trans K1 (K89_fr rg192 (by decide))
                  have K3 : K89 s0 g198 := K89_trans K2 (by rw [eg198]; exact K89_st (by omega))
                  have K4 : K89 s0 g204 := K89_trans K3 qg204
                  have K5 : K89 s0 g210 := K89_trans K4 (by rw [eg210]; exact K89_st (by omega))
                  exact K5
            · skip
              intro g216 rg216
              intro g225 rg225 g231 eg231
              refine ⟨fun g' => K89 g231 g', ?_, ?_⟩
              · skip
                exact w9_2310
              · skip
                intro g237 rg237 qg237 g243 eg243
                have K0 : K89 s0 g := hI
                have K1 : K89 s0 g216 := K89_trans K0 (K89_fr rg216 (by decide))
                have K2 : K89 s0 g225 := K89_trans K1 (K89_fr rg225 (by decide))
                have K3 : K89 s0 g231 := K89_trans K2 (by rw [eg231]; exact K89_st (by omega))
                have K4 : K89 s0 g237 := K89_trans K3 qg237
                have K5 : K89 s0 g243 := K89_trans K4 (by rw [eg243]; exact K89_st (by omega))
                exact K5
          · skip
            intro g249 rg249
            intro g258 rg258 g264 eg264
            refine ⟨fun g' => K89 g264 g', ?_, ?_⟩
            · skip
              exact w9_2310
            · skip
              intro g270 rg270 qg270 g276 eg276
              have K0 : K89 s0 g := hI
              have K1 : K89 s0 g249 := K89_trans K0 (K89_fr rg249 (by decide))
              have K2 : K89 s0 g258 := K89_trans K1 (K89_fr rg258 (by decide))
              have K3 : K89 s0 g264 := K89_trans K2 (by rw [eg264]; exact K89_st (by omega))
              have K4 : K89 s0 g270 := K89_trans K3 qg270
              have K5 : K89 s0 g276 := K89_trans K4 (by rw [eg276]; exact K89_st (by omega))
              exact K5
    · skip
      have K0 : K89 s0 g := hI
      exact K0
  · intro g v272_1 v272_2 v272_3 rg o1 o2 o3 o4 o5 o6 hI
    refine ⟨fun h7z => ?_, fun h7z => ?_⟩
    · skip
      intro x278 ex278 o9 o10
      refine ⟨fun h11z => ?_, fun h11z => ?_⟩
      · skip
        refine ⟨fun h12z => ?_, fun h12z => ?_⟩
        · skip
          have K0 : K89 s0 g := hI
          exact K0
        · skip
          intro y287 ey287 x288 ex288
          refine ⟨fun h15z => ?_, fun h15z => ?_⟩
          · skip
            have K0 : K89 s0 g := hI
            exact K0
          · skip
            intro x294 ex294 o17 o18
            refine ⟨fun h19z => ?_, fun h19z => ?_⟩
            · skip
              intro x296 ex296 o21 o22
              refine ⟨fun h23z => ?_, fun h23z => ?_⟩
              · skip
                have K0 : K89 s0 g := hI
                exact K0
              · skip
                intro x301 ex301
                refine ⟨fun h25z => ?_, fun h25z => ?_⟩
                · skip
                  intro g309 rg309
                  intro g316 rg316 g322 eg322 g327 eg327
                  refine ⟨fun g' => K89 g327 g', ?_, ?_⟩
                  · skip
                    exact w9_2310
                  · skip
                    intro g333 rg333 qg333 g339 eg339
                    have K0 : K89 s0 g := hI
                    have K1 : K89 s0 g309 := K89_trans K0 (K89_fr rg309 (by decide))
                    have K2 : K89 s0 g316 := K89_trans K1 (K89_fr rg316 (by decide))
                    have K3 : K89 s0 g322 := K89_trans K2 (by rw [eg322]; exact K89_st (by omega))
                    have K4 : K89 s0 g327 := K89_trans K3 (by rw [eg327]; exact K89_st (by omega))
                    have K5 : K89 s0 g333 := K89_trans K4 qg333
                    have K6 : K89 s0 g339 := K89_trans K5 (by rw [eg339]; exact K89_st (by omega))
                    exact K6
                · skip
                  intro g345 rg345
                  intro g352 rg352 g358 eg358 g363 eg363
                  refine ⟨fun g' => K89 g363 g', ?_, ?_⟩
                  · skip
                    exact w9_2310
                  · skip
                    intro g369 rg369 qg369 g375 eg375
                    have K0 : K89 s0 g := hI
                    have K1 : K89 s0 g345 := K89_trans K0 (K89_fr rg345 (by decide))
                    have K2 : K89 s0 g352 := K89_trans K1 (K89_fr rg352 (by decide))
                    have K3 : K89 s0 g358 := K89_trans K2 (by rw [eg358]; exact K89_st (by omega))
                    have K4 : K89 s0 g363 := K89_trans K3 (by rw [eg363]; exact K89_st (by omega))
                    have K5 : K89 s0 g369 := K89_trans K4 qg369
                    have K6 : K89 s0 g375 := K89_trans K5 (by rw [eg375]; exact K89_st (by omega))
                    exact K6
            · skip
              intro x376 ex376 o21 o22 x380 ex380 o24 o25
              refine ⟨fun h26z => ?_, fun h26z => ?_⟩
              · skip
                have K0 : K89 s0 g := hI
                exact K0
              · skip
                intro g389 eg389 g394 eg394
                have K0 : K89 s0 g := hI
                have B1 : g389 386 8 = 1 := by rw [eg389, zup_eq]
                have K1 : K89 s0 g389 := K89_bl (v := 1) (by decide) B1
                have B2 : g394 386 8 = 1 := by
                  rw [eg394, zup_ne (Or.inr (by decide))]
                  exact B1
                have K2 : K89 s0 g394 := K89_bl (v := 1) (by decide) B2
                exact K2
      · skip
        intro y399 ey399 x400 ex400
        refine ⟨fun h14z => ?_, fun h14z => ?_⟩
        · skip
          intro x403 ex403
          refine ⟨fun h16z => ?_, fun h16z => ?_⟩
          · skip
            have K0 : K89 s0 g := hI
            exact K0
          · skip
            intro x409 ex409 o18 o19
            refine ⟨fun h20z => ?_, fun h20z => ?_⟩
            · skip
              intro x411 ex411 o22 o23
              refine ⟨fun h24z => ?_, fun h24z => ?_⟩
              · skip
                have K0 : K89 s0 g := hI
                exact K0
              · skip
                intro x416 ex416
                refine ⟨fun h26z => ?_, fun h26z => ?_⟩
                · skip
                  intro g424 rg424
                  intro g431 rg431 g437 eg437 g442 eg442
                  refine ⟨fun g' => K89 g442 g', ?_, ?_⟩
                  · skip
                    exact w9_2310
                  · skip
                    intro g448 rg448 qg448 g454 eg454
                    have K0 : K89 s0 g := hI
                    have K1 : K89 s0 g424 := K89_trans K0 (K89_fr rg424 (by decide))
                    have K2 : K89 s0 g431 := K89_trans K1 (K89_fr rg431 (by decide))
                    have K3 : K89 s0 g437 := K89_trans K2 (by rw [eg437]; exact K89_st (by omega))
                    have K4 : K89 s0 g442 := K89_trans K3 (by rw [eg442]; exact K89_st (by omega))
                    have K5 : K89 s0 g448 := K89_trans K4 qg448
                    have K6 : K89 s0 g454 := K89_trans K5 (by rw [eg454]; exact K89_st (by omega))
                    exact K6
                · skip
                  intro g460 rg460
                  intro g467 rg467 g473 eg473 g478 eg478
                  refine ⟨fun g' => K89 g478 g', ?_, ?_⟩
                  · skip
                    exact w9_2310
                  · skip
                    intro g484 rg484 qg484 g490 eg490
                    have K0 : K89 s0 g := hI
                    have K1 : K89 s0 g460 := K89_trans K0 (K89_fr rg460 (by decide))
                    have K2 : K89 s0 g467 := K89_trans K1 (K89_fr rg467 (by decide))
                    have K3 : K89 s0 g473 := K89_trans K2 (by rw [eg473]; exact K89_st (by omega))
                    have K4 : K89 s0 g478 := K89_trans K3 (by rw [eg478]; exact K89_st (by omega))
                    have K5 : K89 s0 g484 := K89_trans K4 qg484
                    have K6 : K89 s0 g490 := K89_trans K5 (by rw [eg490]; exact K89_st (by omega))
                    exact K6
            · skip
              intro x491 ex491 o22 o23 x495 ex495 o25 o26
              refine ⟨fun h27z => ?_, fun h27z => ?_⟩
              · skip
                have K0 : K89 s0 g := hI
                exact K0
              · skip
                intro g504 eg504 g509 eg509
                have K0 : K89 s0 g := hI
                have B1 : g504 386 8 = 1 := by rw [eg504, zup_eq]
                have K1 : K89 s0 g504 := K89_bl (v := 1) (by decide) B1
                have B2 : g509 386 8 = 1 := by
                  rw [eg509, zup_ne (Or.inr (by decide))]
                  exact B1
                have K2 : K89 s0 g509 := K89_bl (v := 1) (by decide) B2
                exact K2
        · skip
          intro x514 ex514 o16 o17
          refine ⟨fun h18z => ?_, fun h18z => ?_⟩
          · skip
            intro x516 ex516 o20 o21
            refine ⟨fun h22z => ?_, fun h22z => ?_⟩
            · skip
              have K0 : K89 s0 g := hI
              exact K0
            · skip
              intro x521 ex521
              refine ⟨fun h24z => ?_, fun h24z => ?_⟩
              · skip
                intro g529 rg529
                intro g536 rg536 g542 eg542 g547 eg547
                refine ⟨fun g' => K89 g547 g', ?_, ?_⟩
                · skip
                  exact w9_2310
                · skip
                  intro g553 rg553 qg553 g559 eg559
                  have K0 : K89 s0 g := hI
                  have K1 : K89 s0 g529 := K89_trans K0 (K89_fr rg529 (by decide))
                  have K2 : K89 s0 g536 := K89_trans K1 (K89_fr rg536 (by decide))
                  have K3 : K89 s0 g542 := K89_trans K2 (by rw [eg542]; exact K89_st (by omega))
                  have K4 : K89 s0 g547 := K89_trans K3 (by rw [eg547]; exact K89_st (by omega))
                  have K5 : K89 s0 g553 := K89_trans K4 qg553
                  have K6 : K89 s0 g559 := K89_trans K5 (by rw [eg559]; exact K89_st (by omega))
                  exact K6
              · skip
                intro g565 rg565
                intro g572 rg572 g578 eg578 g583 eg583
                refine ⟨fun g' => K89 g583 g', ?_, ?_⟩
                · skip
                  exact w9_2310
                · skip
                  intro g589 rg589 qg589 g595 eg595
                  have K0 : K89 s0 g := hI
                  have K1 : K89 s0 g565 := K89_trans K0 (K89_fr rg565 (by decide))
                  have K2 : K89 s0 g572 := K89_trans K1 (K89_fr rg572 (by decide))
                  have K3 : K89 s0 g578 := K89_trans K2 (by rw [eg578]; exact K89_st (by omega))
                  have K4 : K89 s0 g583 := K89_trans K3 (by rw [eg583]; exact K89_st (by omega))
                  have K5 : K89 s0 g589 := K89_trans K4 qg589
                  have K6 : K89 s0 g595 := K89_trans K5 (by rw [eg595]; exact K89_st (by omega))
                  exact K6
          · skip
            intro x596 ex596 o20 o21 x600 ex600 o23 o24
            refine ⟨fun h25z => ?_, fun h25z => ?_⟩
            · skip
              have K0 : K89 s0 g := hI
              exact K0
            · skip
              intro g609 eg609 g614 eg614
              have K0 : K89 s0 g := hI
              have B1 : g609 386 8 = 1 := by rw [eg609, zup_eq]
              have K1 : K89 s0 g609 := K89_bl (v := 1) (by decide) B1
              have B2 : g614 386 8 = 1 := by
                rw [eg614, zup_ne (Or.inr (by decide))]
                exact B1
              have K2 : K89 s0 g614 := K89_bl (v := 1) (by decide) B2
              exact K2
    · skip
      have K0 : K89 s0 g := hI
      exact K0
  · intro g v387_1 v387_2 v387_3 rg o1 o2 o3 o4 o5 o6 hI
    refine ⟨fun h7z => ?_, fun h7z => ?_⟩
    · skip
      intro x620 ex620 o9 o10
      refine ⟨fun h11z => ?_, fun h11z => ?_⟩
      · skip
        have K0 : K89 s0 g := hI
        exact K0
      · skip
        intro x622 ex622 o13 o14 x626 ex626 o16 o17
        refine ⟨fun h18z => ?_, fun h18z => ?_⟩
        · skip
          have K0 : K89 s0 g := hI
          exact K0
        · skip
          intro g635 eg635 g640 eg640
          have K0 : K89 s0 g := hI
          have B1 : g635 386 8 = 1 := by rw [eg635, zup_eq]
          have K1 : K89 s0 g635 := K89_bl (v := 1) (by decide) B1
          have B2 : g640 386 8 = 1 := by
            rw [eg640, zup_ne (Or.inr (by decide))]
            exact B1
          have K2 : K89 s0 g640 := K89_bl (v := 1) (by decide) B2
          exact K2
    · skip
      have K0 : K89 s0 g := hI
      exact K0
  · intro g v409_1 v409_2 rg o1 o2 o3 o4 hI
    refine ⟨fun h5z => ?_, fun h5z => ?_⟩
    · skip
      intro x642 ex642 o7 o8
      refine ⟨fun h9z => ?_, fun h9z => ?_⟩
      · skip
        have K0 : K89 s0 g := hI
        exact K0
      · skip
        intro g652 rg652
        have K0 : K89 s0 g := hI
        have K1 : K89 s0 g652 := K89_trans K0 (K89_fr rg652 (by decide))
        exact K1
    · skip
      refine ⟨fun h6z => ?_, fun h6z => ?_⟩
      · skip
        refine ⟨fun h7z => ?_, fun h7z => ?_⟩
        · skip
          intro x656 ex656 o9 o10
          refine ⟨fun h11z => ?_, fun h11z => ?_⟩
          · skip
            intro x661 ex661 o13 o14 x665 ex665 o16 o17
            refine ⟨fun h18z => ?_, fun h18z => ?_⟩
            · skip
              have K0 : K89 s0 g := hI
              exact K0
            · skip
              intro g674 eg674 g679 eg679
              have K0 : K89 s0 g := hI
              have B1 : g674 386 8 = 1 := by rw [eg674, zup_eq]
              have K1 : K89 s0 g674 := K89_bl (v := 1) (by decide) B1
              have B2 : g679 386 8 = 1 := by
                rw [eg679, zup_ne (Or.inr (by decide))]
                exact B1
              have K2 : K89 s0 g679 := K89_bl (v := 1) (by decide) B2
              exact K2
          · skip
            intro x681 ex681
            refine ⟨fun h13z => ?_, fun h13z => ?_⟩
            · skip
              intro x686 ex686 o15 o16 x690 ex690 o18 o19
              refine ⟨fun h20z => ?_, fun h20z => ?_⟩
              · skip
                have K0 : K89 s0 g := hI
                exact K0
              · skip
                intro g699 eg699 g704 eg704
                have K0 : K89 s0 g := hI
                have B1 : g699 386 8 = 1 := by rw [eg699, zup_eq]
                have K1 : K89 s0 g699 := K89_bl (v := 1) (by decide) B1
                have B2 : g704 386 8 = 1 := by
                  rw [eg704, zup_ne (Or.inr (by decide))]
                  exact B1
                have K2 : K89 s0 g704 := K89_bl (v := 1) (by decide) B2
                exact K2
            · skip
              intro x706 ex706 o15 o16
              refine ⟨fun h17z => ?_, fun h17z => ?_⟩
              · skip
                have K0 : K89 s0 g := hI
                exact K0
              · skip
                intro g716 rg716 x718 ex718 o20 o21 x722 ex722 o23 g729 eg729 x730 ex730 o26 o27 x734 ex734 o29 g741 eg741
                refine ⟨fun h31z => ?_, fun h31z => ?_⟩
                · skip
                  refine ⟨fun g' => K89 g741 g', ?_, ?_⟩
                  · skip
                    exact w9_2310
                  · skip
                    intro g748 rg748 qg748
                    have K0 : K89 s0 g := hI
                    have K1 : K89 s0 g716 := K89_trans K0 (K89_fr rg716 (by decide))
                    have K2 : K89 s0 g729 := K89_trans K1 (by rw [eg729]; exact K89_st (by omega))
                    have K3 : K89 s0 g741 := K89_trans K2 (by rw [eg741]; exact K89_st (by omega))
                    have K4 : K89 s0 g748 := K89_trans K3 qg748
                    exact K4
                · skip
                  intro x753 ex753 o33 o34
                  intro g759 rg759
                  refine ⟨fun g' => K89 g759 g', ?_, ?_⟩
                  · skip
                    exact w9_2310
                  · skip
                    intro g766 rg766 qg766
                    have K0 : K89 s0 g := hI
                    have K1 : K89 s0 g716 := K89_trans K0 (K89_fr rg716 (by decide))
                    have K2 : K89 s0 g729 := K89_trans K1 (by rw [eg729]; exact K89_st (by omega))
                    have K3 : K89 s0 g741 := K89_trans K2 (by rw [eg741]; exact K89_st (by omega))
                    have K4 : K89 s0 g759 := K89_trans K3 (K89_fr rg759 (by decide))
                    have K5 : K89 s0 g766 := K89_trans K4 qg766
                    exact K5
        · skip
          intro x768 ex768 o9 o10
          refine ⟨fun h11z => ?_, fun h11z => ?_⟩
          · skip
            intro x773 ex773 o13 o14 x777 ex777 o16 o17
            refine ⟨fun h18z => ?_, fun h18z => ?_⟩
            · skip
              have K0 : K89 s0 g := hI
              exact K0
            · skip
              intro g786 eg786 g791 eg791
              have K0 : K89 s0 g := hI
              have B1 : g786 386 8 = 1 := by rw [eg786, zup_eq]
              have K1 : K89 s0 g786 := K89_bl (v := 1) (by decide) B1
              have B2 : g791 386 8 = 1 := by
                rw [eg791, zup_ne (Or.inr (by decide))]
                exact B1
              have K2 : K89 s0 g791 := K89_bl (v := 1) (by decide) B2
              exact K2
          · skip
            intro x793 ex793
            refine ⟨fun h13z => ?_, fun h13z => ?_⟩
            · skip
              intro x798 ex798 o15 o16 x802 ex802 o18 o19
              refine ⟨fun h20z => ?_, fun h20z => ?_⟩
              · skip
                have K0 : K89 s0 g := hI
                exact K0
              · skip
                intro g811 eg811 g816 eg816
                have K0 : K89 s0 g := hI
                have B1 : g811 386 8 = 1 := by rw [eg811, zup_eq]
                have K1 : K89 s0 g811 := K89_bl (v := 1) (by decide) B1
                have B2 : g816 386 8 = 1 := by
                  rw [eg816, zup_ne (Or.inr (by decide))]
                  exact B1
                have K2 : K89 s0 g816 := K89_bl (v := 1) (by decide) B2
                exact K2
            · skip
              intro x818 ex818 o15 o16
              refine ⟨fun h17z => ?_, fun h17z => ?_⟩
              · skip
                have K0 : K89 s0 g := hI
                exact K0
              · skip
                intro g828 rg828 x830 ex830 o20 o21 x834 ex834 o23 g841 eg841 x842 ex842 o26 o27 x846 ex846 o29 g853 eg853 x855 ex855 o32 g862 eg862
                refine ⟨fun g' => K89 g862 g', ?_, ?_⟩
                · skip
                  exact w9_2310
                · skip
                  intro g868 rg868 qg868
                  have K0 : K89 s0 g := hI
                  have K1 : K89 s0 g828 := K89_trans K0 (K89_fr rg828 (by decide))
                  have K2 : K89 s0 g841 := K89_trans K1 (by rw [eg841]; exact K89_st (by omega))
                  have K3 : K89 s0 g853 := K89_trans K2 (by rw [eg853]; exact K89_st (by omega))
                  have K4 : K89 s0 g862 := K89_trans K3 (by rw [eg862]; exact K89_st (by omega))
                  have K5 : K89 s0 g868 := K89_trans K4 qg868
                  exact K5
      · skip
        intro x870 ex870 o8 o9
        refine ⟨fun h10z => ?_, fun h10z => ?_⟩
        · skip
          intro x875 ex875 o12 o13 x879 ex879 o15 o16
          refine ⟨fun h17z => ?_, fun h17z => ?_⟩
          · skip
            have K0 : K89 s0 g := hI
            exact K0
          · skip
            intro g888 eg888 g893 eg893
            have K0 : K89 s0 g := hI
            have B1 : g888 386 8 = 1 := by rw [eg888, zup_eq]
            have K1 : K89 s0 g888 := K89_bl (v := 1) (by decide) B1
            have B2 : g893 386 8 = 1 := by
              rw [eg893, zup_ne (Or.inr (by decide))]
              exact B1
            have K2 : K89 s0 g893 := K89_bl (v := 1) (by decide) B2
            exact K2
        · skip
          intro x895 ex895
          refine ⟨fun h12z => ?_, fun h12z => ?_⟩
          · skip
            intro x900 ex900 o14 o15 x904 ex904 o17 o18
            refine ⟨fun h19z => ?_, fun h19z => ?_⟩
            · skip
              have K0 : K89 s0 g := hI
              exact K0
            · skip
              intro g913 eg913 g918 eg918
              have K0 : K89 s0 g := hI
              have B1 : g913 386 8 = 1 := by rw [eg913, zup_eq]
              have K1 : K89 s0 g913 := K89_bl (v := 1) (by decide) B1
              have B2 : g918 386 8 = 1 := by
                rw [eg918, zup_ne (Or.inr (by decide))]
                exact B1
              have K2 : K89 s0 g918 := K89_bl (v := 1) (by decide) B2
              exact K2
          · skip
            intro x920 ex920 o14 o15
            refine ⟨fun h16z => ?_, fun h16z => ?_⟩
            · skip
              have K0 : K89 s0 g := hI
              exact K0
            · skip
              intro g930 rg930 g936 eg936
              refine ⟨fun g' => K89 g936 g', ?_, ?_⟩
              · skip
                exact w9_2310
              · skip
                intro g942 rg942 qg942 g948 eg948
                have K0 : K89 s0 g := hI
                have K1 : K89 s0 g930 := K89_trans K0 (K89_fr rg930 (by decide))
                have K2 : K89 s0 g936 := K89_trans K1 (by rw [eg936]; exact K89_st (by omega))
                have K3 : K89 s0 g942 := K89_trans K2 qg942
                have K4 : K89 s0 g948 := K89_trans K3 (by rw [eg948]; exact K89_st (by omega))
                exact K4
set_option maxHeartbeats 4000000 in
theorem w9_2328 {s0 : zF} {a0 : Int} : p_2328 s0 a0 (fun g => K89 s0 g) := by
  refine ⟨fun g v43_2 => K89 s0 g, ?_, ?_⟩
  · skip
    intro x43 ex43 o2 o3
    refine ⟨fun h4z => ?_, fun h4z => ?_⟩
    · skip
      have K0 : K89 s0 s0 := K89_refl
      exact K0
    · skip
      intro g52 eg52 g57 eg57 g62 eg62 g67 eg67
      refine ⟨fun h9z => ?_, fun h9z => ?_⟩
      · skip
        refine ⟨fun g' => K89 g67 g', ?_, ?_⟩
        · skip
          exact w9_2329
        · skip
          intro g74 rg74 qg74
          have K0 : K89 s0 s0 := K89_refl
          have K1 : K89 s0 g52 := K89_trans K0 (by rw [eg52]; exact K89_st (by omega))
          have K2 : K89 s0 g57 := K89_trans K1 (by rw [eg57]; exact K89_st (by omega))
          have K3 : K89 s0 g62 := K89_trans K2 (by rw [eg62]; exact K89_st (by omega))
          have K4 : K89 s0 g67 := K89_trans K3 (by rw [eg67]; exact K89_st (by omega))
          have K5 : K89 s0 g74 := K89_trans K4 qg74
          exact K5
      · skip
        refine ⟨fun g' => K89 g67 g', ?_, ?_⟩
        · skip
          exact w9_2329
        · skip
          intro g81 rg81 qg81
          have K0 : K89 s0 s0 := K89_refl
          have K1 : K89 s0 g52 := K89_trans K0 (by rw [eg52]; exact K89_st (by omega))
          have K2 : K89 s0 g57 := K89_trans K1 (by rw [eg57]; exact K89_st (by omega))
          have K3 : K89 s0 g62 := K89_trans K2 (by rw [eg62]; exact K89_st (by omega))
          have K4 : K89 s0 g67 := K89_trans K3 (by rw [eg67]; exact K89_st (by omega))
          have K5 : K89 s0 g81 := K89_trans K4 qg81
          exact K5
  · intro g v43_2 rg o1 o2 hI
    refine ⟨fun h3z => ?_, fun h3z => ?_⟩
    · skip
      intro x2 ex2 o5 o6
      refine ⟨fun h7z => ?_, fun h7z => ?_⟩
      · skip
        refine ⟨fun _ g' => K89 g g', ?_, ?_⟩
        · skip
          exact w9_2336
        · skip
          intro x12 o8 o9 g15 rg15 qg15
          refine ⟨fun h12z => ?_, fun h12z => ?_⟩
          · skip
            intro x18 ex18 o14 o15
            refine ⟨fun h16z => ?_, fun h16z => ?_⟩
            · skip
              have K0 : K89 s0 g := hI
              have K1 : K89 s0 g15 := K89_trans K0 qg15
              exact K1
            · skip
              have K0 : K89 s0 g := hI
              have K1 : K89 s0 g15 := K89_trans K0 qg15
              exact K1
          · skip
            have K0 : K89 s0 g := hI
            have K1 : K89 s0 g15 := K89_trans K0 qg15
            exact K1
      · skip
        refine ⟨fun _ g' => K89 g g', ?_, ?_⟩
        · skip
          exact w9_2330
        · skip
          intro x28 o8 o9 g31 rg31 qg31 g37 eg37 x38 ex38 o14 o15
          refine ⟨fun h16z => ?_, fun h16z => ?_⟩
          · skip
            have K0 : K89 s0 g := hI
            have K1 : K89 s0 g31 := K89_trans K0 qg31
            have K2 : K89 s0 g37 := K89_trans K1 (by rw [eg37]; exact K89_st (by omega))
            exact K2
          · skip
            have K0 : K89 s0 g := hI
            have K1 : K89 s0 g31 := K89_trans K0 qg31
            have K2 : K89 s0 g37 := K89_trans K1 (by rw [eg37]; exact K89_st (by omega))
            exact K2
    · skip
      have K0 : K89 s0 g := hI
      exact K0
set_option maxHeartbeats 4000000 in
theorem w9_2327 {s0 : zF} {a0 : Int} : p_2327 s0 a0 (fun g => K89 s0 g) := by
  unfold p_2327
  intro x1 ex1 o2 o3 x8 ex8 o5 o6
  refine ⟨fun h7z => ?_, fun h7z => ?_⟩
  · skip
    intro x10 ex10 o9 o10
    refine ⟨fun h11z => ?_, fun h11z => ?_⟩
    · skip
      have K0 : K89 s0 s0 := K89_refl
      exact K0
    · skip
      refine ⟨fun g' => K89 s0 g', ?_, ?_⟩
      · skip
        exact w9_2310
      · skip
        intro g20 rg20 qg20 x22 ex22 o15 o16
        refine ⟨fun h17z => ?_, fun h17z => ?_⟩
        · skip
          have K0 : K89 s0 s0 := K89_refl
          have K1 : K89 s0 g20 := K89_trans K0 qg20
          exact K1
        · skip
          intro x28 ex28 x34 ex34 o20 g41 eg41 x42 ex42 o23 o24 g50 eg50
          refine ⟨fun g' => K89 g50 g', ?_, ?_⟩
          · skip
            exact w9_2328
          · skip
            intro g56 rg56 qg56 x58 ex58 o29 o30 g66 eg66
            refine ⟨fun g' => K89 g66 g', ?_, ?_⟩
            · skip
              exact w9_2321
            · skip
              intro g72 rg72 qg72
              refine ⟨fun g' => K89 g72 g', ?_, ?_⟩
              · skip
                exact w9_2328
              · skip
                intro g79 rg79 qg79 x81 ex81 o37 o38 g89 eg89 x90 ex90 o41 o42
                refine ⟨fun h43z => ?_, fun h43z => ?_⟩
                · skip
                  have K0 : K89 s0 s0 := K89_refl
                  have K1 : K89 s0 g20 := K89_trans K0 qg20
                  have K2 : K89 s0 g41 := K89_trans K1 (by rw [eg41]; exact K89_st (by omega))
                  have K3 : K89 s0 g50 := K89_trans K2 (by rw [eg50]; exact K89_st (by omega))
                  have K4 : K89 s0 g56 := K89_trans K3 qg56
                  have K5 : K89 s0 g66 := K89_trans K4 (by rw [eg66]; exact K89_st (by omega))
                  have K6 : K89 s0 g72 := K89_trans K5 qg72
                  have K7 : K89 s0 g79 := K89_trans K6 qg79
                  have K8 : K89 s0 g89 := K89_trans K7 (by rw [eg89]; exact K89_st (by omega))
                  exact K8
                · skip
                  intro x100 ex100 g106 eg106
                  have K0 : K89 s0 s0 := K89_refl
                  have K1 : K89 s0 g20 := K89_trans K0 qg20
                  have K2 : K89 s0 g41 := K89_trans K1 (by rw [eg41]; exact K89_st (by omega))
                  have K3 : K89 s0 g50 := K89_trans K2 (by rw [eg50]; exact K89_st (by omega))
                  have K4 : K89 s0 g56 := K89_trans K3 qg56
                  have K5 : K89 s0 g66 := K89_trans K4 (by rw [eg66]; exact K89_st (by omega))
                  have K6 : K89 s0 g72 := K89_trans K5 qg72
                  have K7 : K89 s0 g79 := K89_trans K6 qg79
                  have K8 : K89 s0 g89 := K89_trans K7 (by rw [eg89]; exact K89_st (by omega))
                  have K9 : K89 s0 g106 := K89_trans K8 (by rw [eg106]; exact K89_st (by omega))
                  exact K9
  · skip
    intro x107 ex107 o9 o10
    refine ⟨fun h11z => ?_, fun h11z => ?_⟩
    · skip
      have K0 : K89 s0 s0 := K89_refl
      exact K0
    · skip
      intro x112 ex112 o13 o14 g120 eg120 g125 eg125
      have K0 : K89 s0 s0 := K89_refl
      have B1 : g120 386 8 = 5 := by rw [eg120, zup_eq]
      have K1 : K89 s0 g120 := K89_bl (v := 5) (by decide) B1
      have B2 : g125 386 8 = 5 := by
        rw [eg125, zup_ne (Or.inr (by decide))]
        exact B1
      have K2 : K89 s0 g125 := K89_bl (v := 5) (by decide) B2
      exact K2
set_option maxHeartbeats 4000000 in
theorem w9_2314 {s0 : zF} : p_2314 s0 (fun g => K89 s0 g) := by
  unfold p_2314
  intro x1 ex1 o2 o3
  refine ⟨fun h4z => ?_, fun h4z => ?_⟩
  · skip
    refine ⟨fun h5z => ?_, fun h5z => ?_⟩
    · skip
      refine ⟨fun h6z => ?_, fun h6z => ?_⟩
      · skip
        refine ⟨fun h7z => ?_, fun h7z => ?_⟩
        · skip
          refine ⟨fun h8z => ?_, fun h8z => ?_⟩
          · skip
            intro x10 ex10 o10 o11 x14 ex14 o13 o14
            refine ⟨fun h15z => ?_, fun h15z => ?_⟩
            · skip
              have K0 : K89 s0 s0 := K89_refl
              exact K0
            · skip
              intro g23 eg23 g28 eg28
              have K0 : K89 s0 s0 := K89_refl
              have B1 : g23 386 8 = 1 := by rw [eg23, zup_eq]
              have K1 : K89 s0 g23 := K89_bl (v := 1) (by decide) B1
              have B2 : g28 386 8 = 1 := by
                rw [eg28, zup_ne (Or.inr (by decide))]
                exact B1
              have K2 : K89 s0 g28 := K89_bl (v := 1) (by decide) B2
              exact K2
          · skip
            intro y32 ey32 x33 ex33
            refine ⟨fun h11z => ?_, fun h11z => ?_⟩
            · skip
              intro x36 ex36 o13 o14 x40 ex40 o16 o17
              refine ⟨fun h18z => ?_, fun h18z => ?_⟩
              · skip
                have K0 : K89 s0 s0 := K89_refl
                exact K0
              · skip
                intro g49 eg49 g54 eg54
                have K0 : K89 s0 s0 := K89_refl
                have B1 : g49 386 8 = 1 := by rw [eg49, zup_eq]
                have K1 : K89 s0 g49 := K89_bl (v := 1) (by decide) B1
                have B2 : g54 386 8 = 1 := by
                  rw [eg54, zup_ne (Or.inr (by decide))]
                  exact B1
                have K2 : K89 s0 g54 := K89_bl (v := 1) (by decide) B2
                exact K2
            · skip
              refine ⟨fun g' => K89 s0 g', ?_, ?_⟩
              · skip
                exact w9_2327
              · skip
                intro g60 rg60 qg60
                have K0 : K89 s0 s0 := K89_refl
                have K1 : K89 s0 g60 := K89_trans K0 qg60
                exact K1
        · skip
          intro y65 ey65 x66 ex66
          refine ⟨fun h10z => ?_, fun h10z => ?_⟩
          · skip
            intro x69 ex69
            refine ⟨fun h12z => ?_, fun h12z => ?_⟩
            · skip
              intro x72 ex72 o14 o15 x76 ex76 o17 o18
              refine ⟨fun h19z => ?_, fun h19z => ?_⟩
              · skip
                have K0 : K89 s0 s0 := K89_refl
                exact K0
              · skip
                intro g85 eg85 g90 eg90
                have K0 : K89 s0 s0 := K89_refl
                have B1 : g85 386 8 = 1 := by rw [eg85, zup_eq]
                have K1 : K89 s0 g85 := K89_bl (v := 1) (by decide) B1
                have B2 : g90 386 8 = 1 := by
                  rw [eg90, zup_ne (Or.inr (by decide))]
                  exact B1
                have K2 : K89 s0 g90 := K89_bl (v := 1) (by decide) B2
                exact K2
            · skip
              refine ⟨fun g' => K89 s0 g', ?_, ?_⟩
              · skip
                exact w9_2327
              · skip
                intro g96 rg96 qg96
                have K0 : K89 s0 s0 := K89_refl
                have K1 : K89 s0 g96 := K89_trans K0 qg96
                exact K1
          · skip
            refine ⟨fun g' => K89 s0 g', ?_, ?_⟩
            · skip
              exact w9_2327
            · skip
              intro g103 rg103 qg103
              have K0 : K89 s0 s0 := K89_refl
              have K1 : K89 s0 g103 := K89_trans K0 qg103
              exact K1
      · skip
        intro y108 ey108 x109 ex109
        refine ⟨fun h9z => ?_, fun h9z => ?_⟩
        · skip
          intro x112 ex112
          refine ⟨fun h11z => ?_, fun h11z => ?_⟩
          · skip
            intro x115 ex115
            refine ⟨fun h13z => ?_, fun h13z => ?_⟩
            · skip
              intro x118 ex118 o15 o16 x122 ex122 o18 o19
              refine ⟨fun h20z => ?_, fun h20z => ?_⟩
              · skip
                have K0 : K89 s0 s0 := K89_refl
                exact K0
              · skip
                intro g131 eg131 g136 eg136
                have K0 : K89 s0 s0 := K89_refl
                have B1 : g131 386 8 = 1 := by rw [eg131, zup_eq]
                have K1 : K89 s0 g131 := K89_bl (v := 1) (by decide) B1
                have B2 : g136 386 8 = 1 := by
                  rw [eg136, zup_ne (Or.inr (by decide))]
                  exact B1
                have K2 : K89 s0 g136 := K89_bl (v := 1) (by decide) B2
                exact K2
            · skip
              refine ⟨fun g' => K89 s0 g', ?_, ?_⟩
              · skip
                exact w9_2327
              · skip
                intro g142 rg142 qg142
                have K0 : K89 s0 s0 := K89_refl
                have K1 : K89 s0 g142 := K89_trans K0 qg142
                exact K1
          · skip
            refine ⟨fun g' => K89 s0 g', ?_, ?_⟩
            · skip
              exact w9_2327
            · skip
              intro g149 rg149 qg149
              have K0 : K89 s0 s0 := K89_refl
              have K1 : K89 s0 g149 := K89_trans K0 qg149
              exact K1
        · skip
          refine ⟨fun g' => K89 s0 g', ?_, ?_⟩
          · skip
            exact w9_2326
          · skip
            intro g156 rg156 qg156
            have K0 : K89 s0 s0 := K89_refl
            have K1 : K89 s0 g156 := K89_trans K0 qg156
            exact K1
    · skip
      intro y161 ey161 x162 ex162
      refine ⟨fun h8z => ?_, fun h8z => ?_⟩
      · skip
        intro x165 ex165
        refine ⟨fun h10z => ?_, fun h10z => ?_⟩
        · skip
          intro x168 ex168
          refine ⟨fun h12z => ?_, fun h12z => ?_⟩
          · skip
            intro x171 ex171
            refine ⟨fun h14z => ?_, fun h14z => ?_⟩
            · skip
              intro x174 ex174 o16 o17 x178 ex178 o19 o20
              refine ⟨fun h21z => ?_, fun h21z => ?_⟩
              · skip
                have K0 : K89 s0 s0 := K89_refl
                exact K0
              · skip
                intro g187 eg187 g192 eg192
                have K0 : K89 s0 s0 := K89_refl
                have B1 : g187 386 8 = 1 := by rw [eg187, zup_eq]
                have K1 : K89 s0 g187 := K89_bl (v := 1) (by decide) B1
                have B2 : g192 386 8 = 1 := by
                  rw [eg192, zup_ne (Or.inr (by decide))]
                  exact B1
                have K2 : K89 s0 g192 := K89_bl (v := 1) (by decide) B2
                exact K2
            · skip
              refine ⟨fun g' => K89 s0 g', ?_, ?_⟩
              · skip
                exact w9_2327
              · skip
                intro g198 rg198 qg198
                have K0 : K89 s0 s0 := K89_refl
                have K1 : K89 s0 g198 := K89_trans K0 qg198
                exact K1
          · skip
            refine ⟨fun g' => K89 s0 g', ?_, ?_⟩
            · skip
              exact w9_2327
            · skip
              intro g205 rg205 qg205
              have K0 : K89 s0 s0 := K89_refl
              have K1 : K89 s0 g205 := K89_trans K0 qg205
              exact K1
        · skip
          refine ⟨fun g' => K89 s0 g', ?_, ?_⟩
          · skip
            exact w9_2326
          · skip
            intro g212 rg212 qg212
            have K0 : K89 s0 s0 := K89_refl
            have K1 : K89 s0 g212 := K89_trans K0 qg212
            exact K1
      · skip
        refine ⟨fun g' => K89 s0 g', ?_, ?_⟩
        · skip
          exact w9_2325
        · skip
          intro g219 rg219 qg219
          have K0 : K89 s0 s0 := K89_refl
          have K1 : K89 s0 g219 := K89_trans K0 qg219
          exact K1
  · skip
    intro y224 ey224 x225 ex225
    refine ⟨fun h7z => ?_, fun h7z => ?_⟩
    · skip
      intro x228 ex228
      refine ⟨fun h9z => ?_, fun h9z => ?_⟩
      · skip
        intro x231 ex231
        refine ⟨fun h11z => ?_, fun h11z => ?_⟩
        · skip
          intro x234 ex234
          refine ⟨fun h13z => ?_, fun h13z => ?_⟩
          · skip
            intro x237 ex237
            refine ⟨fun h15z => ?_, fun h15z => ?_⟩
            · skip
              intro x240 ex240 o17 o18 x244 ex244 o20 o21
              refine ⟨fun h22z => ?_, fun h22z => ?_⟩
              · skip
                have K0 : K89 s0 s0 := K89_refl
                exact K0
              · skip
                intro g253 eg253 g258 eg258
                have K0 : K89 s0 s0 := K89_refl
                have B1 : g253 386 8 = 1 := by rw [eg253, zup_eq]
                have K1 : K89 s0 g253 := K89_bl (v := 1) (by decide) B1
                have B2 : g258 386 8 = 1 := by
                  rw [eg258, zup_ne (Or.inr (by decide))]
                  exact B1
                have K2 : K89 s0 g258 := K89_bl (v := 1) (by decide) B2
                exact K2
            · skip
              refine ⟨fun g' => K89 s0 g', ?_, ?_⟩
              · skip
                exact w9_2327
              · skip
                intro g264 rg264 qg264
                have K0 : K89 s0 s0 := K89_refl
                have K1 : K89 s0 g264 := K89_trans K0 qg264
                exact K1
          · skip
            refine ⟨fun g' => K89 s0 g', ?_, ?_⟩
            · skip
              exact w9_2327
            · skip
              intro g271 rg271 qg271
              have K0 : K89 s0 s0 := K89_refl
              have K1 : K89 s0 g271 := K89_trans K0 qg271
              exact K1
        · skip
          refine ⟨fun g' => K89 s0 g', ?_, ?_⟩
          · skip
            exact w9_2326
          · skip
            intro g278 rg278 qg278
            have K0 : K89 s0 s0 := K89_refl
            have K1 : K89 s0 g278 := K89_trans K0 qg278
            exact K1
      · skip
        refine ⟨fun g' => K89 s0 g', ?_, ?_⟩
        · skip
          exact w9_2325
        · skip
          intro g285 rg285 qg285
          have K0 : K89 s0 s0 := K89_refl
          have K1 : K89 s0 g285 := K89_trans K0 qg285
          exact K1
    · skip
      refine ⟨fun g' => K89 s0 g', ?_, ?_⟩
      · skip
        exact w9_2316
      · skip
        intro g292 rg292 qg292
        have K0 : K89 s0 s0 := K89_refl
        have K1 : K89 s0 g292 := K89_trans K0 qg292
        exact K1
set_option maxHeartbeats 4000000 in
theorem w9_2339 {s0 : zF} {a0 : Int} : p_2339 s0 a0 (fun g => K89 s0 g) := by
  refine ⟨fun g v13_1 v13_2 => K89 s0 g, ?_, ?_⟩
  · skip
    intro x157 ex157 o2 o3
    refine ⟨fun h4z => ?_, fun h4z => ?_⟩
    · skip
      have K0 : K89 s0 s0 := K89_refl
      exact K0
    · skip
      intro x162 ex162 o6 o7
      have K0 : K89 s0 s0 := K89_refl
      exact K0
  · intro g v13_1 v13_2 rg o1 o2 hI
    intro x1 ex1 o4 o5
    refine ⟨fun h6z => ?_, fun h6z => ?_⟩
    · skip
      intro x9 ex9 o8 o9
      refine ⟨fun h10z => ?_, fun h10z => ?_⟩
      · skip
        refine ⟨fun h11z => ?_, fun h11z => ?_⟩
        · skip
          intro x15 ex15 o13 o14
          refine ⟨fun h15z => ?_, fun h15z => ?_⟩
          · skip
            refine ⟨fun g' => K89 g g', ?_, ?_⟩
            · skip
              exact w9_2340
            · skip
              intro g25 rg25 qg25
              have K0 : K89 s0 g := hI
              have K1 : K89 s0 g25 := K89_trans K0 qg25
              exact K1
          · skip
            intro x27 ex27
            refine ⟨fun h17z => ?_, fun h17z => ?_⟩
            · skip
              refine ⟨fun g' => K89 g g', ?_, ?_⟩
              · skip
                exact w9_2340
              · skip
                intro g37 rg37 qg37
                have K0 : K89 s0 g := hI
                have K1 : K89 s0 g37 := K89_trans K0 qg37
                exact K1
            · skip
              refine ⟨fun h18z => ?_, fun h18z => ?_⟩
              · skip
                refine ⟨fun g' => K89 g g', ?_, ?_⟩
                · skip
                  exact w9_2340
                · skip
                  intro g45 rg45 qg45
                  have K0 : K89 s0 g := hI
                  have K1 : K89 s0 g45 := K89_trans K0 qg45
                  exact K1
              · skip
                refine ⟨fun h19z => ?_, fun h19z => ?_⟩
                · skip
                  intro x48 ex48 o21 o22
                  refine ⟨fun h23z => ?_, fun h23z => ?_⟩
                  · skip
                    refine ⟨fun g' => K89 g g', ?_, ?_⟩
                    · skip
                      exact w9_2340
                    · skip
                      intro g58 rg58 qg58
                      have K0 : K89 s0 g := hI
                      have K1 : K89 s0 g58 := K89_trans K0 qg58
                      exact K1
                  · skip
                    intro g64 eg64 g69 eg69
                    refine ⟨fun g' => K89 g69 g', ?_, ?_⟩
                    · skip
                      exact w9_2340
                    · skip
                      intro g75 rg75 qg75
                      have K0 : K89 s0 g := hI
                      have B1 : g64 386 8 = 5 := by rw [eg64, zup_eq]
                      have K1 : K89 s0 g64 := K89_bl (v := 5) (by decide) B1
                      have B2 : g69 386 8 = 5 := by
                        rw [eg69, zup_ne (Or.inr (by decide))]
                        exact B1
                      have K2 : K89 s0 g69 := K89_bl (v := 5) (by decide) B2
                      have K3 : K89 s0 g75 := K89_trans K2 qg75
                      exact K3
                · skip
                  refine ⟨fun g' => K89 g g', ?_, ?_⟩
                  · skip
                    exact w9_2340
                  · skip
                    intro g82 rg82 qg82
                    have K0 : K89 s0 g := hI
                    have K1 : K89 s0 g82 := K89_trans K0 qg82
                    exact K1
        · skip
          intro x84 ex84
          have K0 : K89 s0 g := hI
          exact K0
      · skip
        intro x86 ex86
        have K0 : K89 s0 g := hI
        exact K0
    · skip
      intro x88 ex88 o8 o9
      refine ⟨fun h10z => ?_, fun h10z => ?_⟩
      · skip
        refine ⟨fun g' => K89 g g', ?_, ?_⟩
        · skip
          exact w9_2340
        · skip
          intro g98 rg98 qg98
          have K0 : K89 s0 g := hI
          have K1 : K89 s0 g98 := K89_trans K0 qg98
          exact K1
      · skip
        intro x100 ex100
        refine ⟨fun h12z => ?_, fun h12z => ?_⟩
        · skip
          refine ⟨fun g' => K89 g g', ?_, ?_⟩
          · skip
            exact w9_2340
          · skip
            intro g110 rg110 qg110
            have K0 : K89 s0 g := hI
            have K1 : K89 s0 g110 := K89_trans K0 qg110
            exact K1
        · skip
          refine ⟨fun h13z => ?_, fun h13z => ?_⟩
          · skip
            refine ⟨fun g' => K89 g g', ?_, ?_⟩
            · skip
              exact w9_2340
            · skip
              intro g118 rg118 qg118
              have K0 : K89 s0 g := hI
              have K1 : K89 s0 g118 := K89_trans K0 qg118
              exact K1
          · skip
            refine ⟨fun h14z => ?_, fun h14z => ?_⟩
            · skip
              intro x121 ex121 o16 o17
              refine ⟨fun h18z => ?_, fun h18z => ?_⟩
              · skip
                refine ⟨fun g' => K89 g g', ?_, ?_⟩
                · skip
                  exact w9_2340
                · skip
                  intro g131 rg131 qg131
                  have K0 : K89 s0 g := hI
                  have K1 : K89 s0 g131 := K89_trans K0 qg131
                  exact K1
              · skip
                intro g137 eg137 g142 eg142
                refine ⟨fun g' => K89 g142 g', ?_, ?_⟩
                · skip
                  exact w9_2340
                · skip
                  intro g148 rg148 qg148
                  have K0 : K89 s0 g := hI
                  have B1 : g137 386 8 = 5 := by rw [eg137, zup_eq]
                  have K1 : K89 s0 g137 := K89_bl (v := 5) (by decide) B1
                  have B2 : g142 386 8 = 5 := by
                    rw [eg142, zup_ne (Or.inr (by decide))]
                    exact B1
                  have K2 : K89 s0 g142 := K89_bl (v := 5) (by decide) B2
                  have K3 : K89 s0 g148 := K89_trans K2 qg148
                  exact K3
            · skip
              refine ⟨fun g' => K89 g g', ?_, ?_⟩
              · skip
                exact w9_2340
              · skip
                intro g155 rg155 qg155
                have K0 : K89 s0 g := hI
                have K1 : K89 s0 g155 := K89_trans K0 qg155
                exact K1
set_option maxHeartbeats 4000000 in
theorem w9_2309 {s0 : zF} : p_2309 s0 (fun v g => g 386 10 = 0 → g 386 11 = -1) := by
  refine ⟨fun g v76_1 => g 386 9 = -1, fun g v114_1 => g 386 8 = 0 → g 386 9 = -1, fun g v143_1 => g 386 8 = 0 → g 386 9 = -1, ?_, ?_, ?_, ?_⟩
  · skip
    intro x99 ex99 o2 o3 g107 eg107 g112 eg112 g117 eg117 g122 eg122 g127 eg127 x128 ex128 o10 o11 x132 ex132 g138 eg138 g143 eg143 g149 eg149 g155 eg155 x157 ex157
    rw [eg155, zup_ne (Or.inl (by decide)), eg149, zup_ne (Or.inl (by decide)), eg143, zup_ne (Or.inl (by decide)), eg138, zup_ne (Or.inr (by decide)), eg127, zup_eq]
  · intro g v76_1 rg o1 o2 hI
    intro x1 ex1 o4 o5 x5 ex5 x7 ex7
    refine ⟨fun h8z => ?_, fun h8z => ?_⟩
    · skip
      intro g14 eg14 x15 ex15
      rw [eg14, zup_ne (Or.inl (by decide))]
      exact hI
    · skip
      intro g21 eg21
      refine ⟨fun g' => K89 g21 g', ?_, ?_⟩
      · skip
        exact w9_2310
      · skip
        intro g27 rg27 qg27
        intro z
        obtain ⟨-, y⟩ := (qg27 : K89 g21 g27) z
        rw [y, eg21, zup_ne (Or.inr (by decide))]
        exact hI
  · intro g v114_1 rg hI
    intro x29 ex29 o2 o3
    refine ⟨fun h4z => ?_, fun h4z => ?_⟩
    · skip
      exact hI
    · skip
      intro x34 ex34 o6 o7
      refine ⟨fun h8z => ?_, fun h8z => ?_⟩
      · skip
        refine ⟨fun g' => K89 g g', ?_, ?_⟩
        · skip
          exact w9_2314
        · skip
          intro g44 rg44 qg44 x46 ex46
          refine ⟨fun g' => K89 g44 g', ?_, ?_⟩
          · skip
            exact w9_2339
          · skip
            intro g53 rg53 qg53
            intro z
            obtain ⟨y1, y2⟩ := (qg53 : K89 g44 g53) z
            obtain ⟨y3, y4⟩ := (qg44 : K89 g g44) y1
            rw [y2, y4]
            exact hI y3
      · skip
        exact hI
  · intro g v143_1 rg hI
    intro x55 ex55 o2 o3 g63 eg63 x64 ex64 o6 o7 g72 eg72
    refine ⟨fun h9z => ?_, fun h9z => ?_⟩
    · skip
      intro x78 o10 o11 g81 rg81
      intro z
      have z1 : g 386 8 = 0 := by
        rw [rg81.s (by decide), eg72, zup_ne (Or.inr (by decide)), eg63, zup_eq] at z
        omega
      rw [rg81.s (by decide), eg72, zup_eq, ex64, eg63, zup_ne (Or.inr (by decide))]
      exact hI z1
    · skip
      intro x83 ex83 o11 o12 g91 eg91
      intro g97 rg97
      intro z
      have z1 : g 386 8 = 0 := by
        rw [rg97.s (by decide), eg91, zup_ne (Or.inr (by decide)), eg72, zup_ne (Or.inr (by decide)), eg63, zup_eq] at z
        omega
      rw [rg97.s (by decide), eg91, zup_ne (Or.inr (by decide)), eg72, zup_eq, ex64, eg63, zup_ne (Or.inr (by decide))]
      exact hI z1
