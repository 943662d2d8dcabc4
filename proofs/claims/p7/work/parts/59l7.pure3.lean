/-! pure proofs (wip/safe/vcp.py) -/
set_option maxHeartbeats 4000000 in
theorem v_2314 {b0 i : Nat} {s0 : zF} (hd : DI b0 i s0) (hb : b0 ≠ i) (hb1 : b0 ≤ 1) (hi1 : i ≤ 1) (hk : s0 386 8 = 0) (h3 : 1 ≤ s0 386 3) : b_2314 s0 (fun g => MP s0 g ∧ DI b0 i g ∧ g 388 b0 = s0 388 b0) := by
  have hs := hd.1
  have hz := hs.sz
  have hin : s0 386 35 = i := hd.2.2.1
  unfold b_2314
  intro x1 ex1 fx1 gx1
  refine ⟨fun h5 => ?_, fun h5 => ?_⟩
  · skip
    refine ⟨fun h6 => ?_, fun h6 => ?_⟩
    · skip
      refine ⟨fun h7 => ?_, fun h7 => ?_⟩
      · skip
        refine ⟨fun h8 => ?_, fun h8 => ?_⟩
        · skip
          refine ⟨fun h9 => ?_, fun h9 => ?_⟩
          · skip
            intro x10 ex10 fx10 gx10
            intro x14 ex14 fx14 gx14
            refine ⟨fun h18 => ?_, fun h18 => ?_⟩
            · skip
              exfalso
              omega
            · skip
              intro g23 eg23
              intro g28 eg28
              have e2 : g28 = blF s0 1 x10 := by
                rw [eg28, eg23]
                rfl
              rw [e2]
              exact ⟨MP.bl hs hk (by decide) (by decide), hd.bl (by decide) (by decide), rfl⟩
          · skip
            intro y32 ey32
            intro x33 ex33
            refine ⟨fun h35 => ?_, fun h35 => ?_⟩
            · skip
              intro x36 ex36 fx36 gx36
              intro x40 ex40 fx40 gx40
              refine ⟨fun h44 => ?_, fun h44 => ?_⟩
              · skip
                exfalso
                omega
              · skip
                intro g49 eg49
                intro g54 eg54
                have e2 : g54 = blF s0 1 x36 := by
                  rw [eg54, eg49]
                  rfl
                rw [e2]
                exact ⟨MP.bl hs hk (by decide) (by decide), hd.bl (by decide) (by decide), rfl⟩
            · skip
              refine ⟨fun g' => MP s0 g' ∧ DI b0 i g', ?_, ?_⟩
              · skip
                exact v_2327 hd hb hb1 hi1 hk h3 (by decide)
              · skip
                intro g60 rg60 qg60
                have m : MP s0 g60 ∧ DI b0 i g60 := qg60
                exact ⟨m.1, m.2, congrFun (rg60.a (a := 388) (by decide)) b0⟩
        · skip
          intro y65 ey65
          intro x66 ex66
          refine ⟨fun h68 => ?_, fun h68 => ?_⟩
          · skip
            intro x69 ex69
            refine ⟨fun h71 => ?_, fun h71 => ?_⟩
            · skip
              intro x72 ex72 fx72 gx72
              intro x76 ex76 fx76 gx76
              refine ⟨fun h80 => ?_, fun h80 => ?_⟩
              · skip
                exfalso
                omega
              · skip
                intro g85 eg85
                intro g90 eg90
                have e2 : g90 = blF s0 1 x72 := by
                  rw [eg90, eg85]
                  rfl
                rw [e2]
                exact ⟨MP.bl hs hk (by decide) (by decide), hd.bl (by decide) (by decide), rfl⟩
            · skip
              refine ⟨fun g' => MP s0 g' ∧ DI b0 i g', ?_, ?_⟩
              · skip
                exact v_2327 hd hb hb1 hi1 hk h3 (by decide)
              · skip
                intro g96 rg96 qg96
                have m : MP s0 g96 ∧ DI b0 i g96 := qg96
                exact ⟨m.1, m.2, congrFun (rg96.a (a := 388) (by decide)) b0⟩
          · skip
            refine ⟨fun g' => MP s0 g' ∧ DI b0 i g', ?_, ?_⟩
            · skip
              exact v_2327 hd hb hb1 hi1 hk h3 (by decide)
            · skip
              intro g103 rg103 qg103
              have m : MP s0 g103 ∧ DI b0 i g103 := qg103
              exact ⟨m.1, m.2, congrFun (rg103.a (a := 388) (by decide)) b0⟩
      · skip
        intro y108 ey108
        intro x109 ex109
        refine ⟨fun h111 => ?_, fun h111 => ?_⟩
        · skip
          intro x112 ex112
          refine ⟨fun h114 => ?_, fun h114 => ?_⟩
          · skip
            intro x115 ex115
            refine ⟨fun h117 => ?_, fun h117 => ?_⟩
            · skip
              intro x118 ex118 fx118 gx118
              intro x122 ex122 fx122 gx122
              refine ⟨fun h126 => ?_, fun h126 => ?_⟩
              · skip
                exfalso
                omega
              · skip
                intro g131 eg131
                intro g136 eg136
                have e2 : g136 = blF s0 1 x118 := by
                  rw [eg136, eg131]
                  rfl
                rw [e2]
                exact ⟨MP.bl hs hk (by decide) (by decide), hd.bl (by decide) (by decide), rfl⟩
            · skip
              refine ⟨fun g' => MP s0 g' ∧ DI b0 i g', ?_, ?_⟩
              · skip
                exact v_2327 hd hb hb1 hi1 hk h3 (by decide)
              · skip
                intro g142 rg142 qg142
                have m : MP s0 g142 ∧ DI b0 i g142 := qg142
                exact ⟨m.1, m.2, congrFun (rg142.a (a := 388) (by decide)) b0⟩
          · skip
            refine ⟨fun g' => MP s0 g' ∧ DI b0 i g', ?_, ?_⟩
            · skip
              exact v_2327 hd hb hb1 hi1 hk h3 (by decide)
            · skip
              intro g149 rg149 qg149
              have m : MP s0 g149 ∧ DI b0 i g149 := qg149
              exact ⟨m.1, m.2, congrFun (rg149.a (a := 388) (by decide)) b0⟩
        · skip
          refine ⟨fun g' => MP s0 g' ∧ DI b0 i g', ?_, ?_⟩
          · skip
            exact v_2326 hd hb hb1 hi1 hk h3
          · skip
            intro g156 rg156 qg156
            have m : MP s0 g156 ∧ DI b0 i g156 := qg156
            exact ⟨m.1, m.2, congrFun (rg156.a (a := 388) (by decide)) b0⟩
    · skip
      intro y161 ey161
      intro x162 ex162
      refine ⟨fun h164 => ?_, fun h164 => ?_⟩
      · skip
        intro x165 ex165
        refine ⟨fun h167 => ?_, fun h167 => ?_⟩
        · skip
          intro x168 ex168
          refine ⟨fun h170 => ?_, fun h170 => ?_⟩
          · skip
            intro x171 ex171
            refine ⟨fun h173 => ?_, fun h173 => ?_⟩
            · skip
              intro x174 ex174 fx174 gx174
              intro x178 ex178 fx178 gx178
              refine ⟨fun h182 => ?_, fun h182 => ?_⟩
              · skip
                exfalso
                omega
              · skip
                intro g187 eg187
                intro g192 eg192
                have e2 : g192 = blF s0 1 x174 := by
                  rw [eg192, eg187]
                  rfl
                rw [e2]
                exact ⟨MP.bl hs hk (by decide) (by decide), hd.bl (by decide) (by decide), rfl⟩
            · skip
              refine ⟨fun g' => MP s0 g' ∧ DI b0 i g', ?_, ?_⟩
              · skip
                exact v_2327 hd hb hb1 hi1 hk h3 (by decide)
              · skip
                intro g198 rg198 qg198
                have m : MP s0 g198 ∧ DI b0 i g198 := qg198
                exact ⟨m.1, m.2, congrFun (rg198.a (a := 388) (by decide)) b0⟩
          · skip
            refine ⟨fun g' => MP s0 g' ∧ DI b0 i g', ?_, ?_⟩
            · skip
              exact v_2327 hd hb hb1 hi1 hk h3 (by decide)
            · skip
              intro g205 rg205 qg205
              have m : MP s0 g205 ∧ DI b0 i g205 := qg205
              exact ⟨m.1, m.2, congrFun (rg205.a (a := 388) (by decide)) b0⟩
        · skip
          refine ⟨fun g' => MP s0 g' ∧ DI b0 i g', ?_, ?_⟩
          · skip
            exact v_2326 hd hb hb1 hi1 hk h3
          · skip
            intro g212 rg212 qg212
            have m : MP s0 g212 ∧ DI b0 i g212 := qg212
            exact ⟨m.1, m.2, congrFun (rg212.a (a := 388) (by decide)) b0⟩
      · skip
        refine ⟨fun g' => MP s0 g', ?_, ?_⟩
        · skip
          exact v_2325 hs hk h3
        · skip
          intro g219 rg219 qg219
          have m : MP s0 g219 := qg219
          refine ⟨m, hd.fr m.wp rg219 (by decide) (by decide) (by decide) (by decide) (by decide) (by decide) (by decide) (by decide) (by decide) (by decide), congrFun (rg219.a (a := 388) (by decide)) b0⟩
  · skip
    intro y224 ey224
    intro x225 ex225
    refine ⟨fun h227 => ?_, fun h227 => ?_⟩
    · skip
      intro x228 ex228
      refine ⟨fun h230 => ?_, fun h230 => ?_⟩
      · skip
        intro x231 ex231
        refine ⟨fun h233 => ?_, fun h233 => ?_⟩
        · skip
          intro x234 ex234
          refine ⟨fun h236 => ?_, fun h236 => ?_⟩
          · skip
            intro x237 ex237
            refine ⟨fun h239 => ?_, fun h239 => ?_⟩
            · skip
              intro x240 ex240 fx240 gx240
              intro x244 ex244 fx244 gx244
              refine ⟨fun h248 => ?_, fun h248 => ?_⟩
              · skip
                exfalso
                omega
              · skip
                intro g253 eg253
                intro g258 eg258
                have e2 : g258 = blF s0 1 x240 := by
                  rw [eg258, eg253]
                  rfl
                rw [e2]
                exact ⟨MP.bl hs hk (by decide) (by decide), hd.bl (by decide) (by decide), rfl⟩
            · skip
              refine ⟨fun g' => MP s0 g' ∧ DI b0 i g', ?_, ?_⟩
              · skip
                exact v_2327 hd hb hb1 hi1 hk h3 (by decide)
              · skip
                intro g264 rg264 qg264
                have m : MP s0 g264 ∧ DI b0 i g264 := qg264
                exact ⟨m.1, m.2, congrFun (rg264.a (a := 388) (by decide)) b0⟩
          · skip
            refine ⟨fun g' => MP s0 g' ∧ DI b0 i g', ?_, ?_⟩
            · skip
              exact v_2327 hd hb hb1 hi1 hk h3 (by decide)
            · skip
              intro g271 rg271 qg271
              have m : MP s0 g271 ∧ DI b0 i g271 := qg271
              exact ⟨m.1, m.2, congrFun (rg271.a (a := 388) (by decide)) b0⟩
        · skip
          refine ⟨fun g' => MP s0 g' ∧ DI b0 i g', ?_, ?_⟩
          · skip
            exact v_2326 hd hb hb1 hi1 hk h3
          · skip
            intro g278 rg278 qg278
            have m : MP s0 g278 ∧ DI b0 i g278 := qg278
            exact ⟨m.1, m.2, congrFun (rg278.a (a := 388) (by decide)) b0⟩
      · skip
        refine ⟨fun g' => MP s0 g', ?_, ?_⟩
        · skip
          exact v_2325 hs hk h3
        · skip
          intro g285 rg285 qg285
          have m : MP s0 g285 := qg285
          refine ⟨m, hd.fr m.wp rg285 (by decide) (by decide) (by decide) (by decide) (by decide) (by decide) (by decide) (by decide) (by decide) (by decide), congrFun (rg285.a (a := 388) (by decide)) b0⟩
    · skip
      refine ⟨fun g' => MP s0 g' ∧ ∀ k, k ≠ (s0 386 35).toNat → g' 388 k = s0 388 k, ?_, ?_⟩
      · skip
        exact v_2316 hs hk h3
      · skip
        intro g292 rg292 qg292
        have m : MP s0 g292 ∧ _ := qg292
        refine ⟨m.1, hd.fr m.1.wp rg292 (by decide) (by decide) (by decide) (by decide) (by decide) (by decide) (by decide) (by decide) (by decide) (by decide), m.2 b0 (by omega)⟩
set_option maxHeartbeats 4000000 in
theorem v_2339 {a0 : Int} {s0 : zF} (hs : SG s0) : b_2339 s0 a0 (fun g => MP s0 g) := by
  have hz := hs.sz
  refine ⟨fun n g v13_1 v13_2 => n = (s0 386 2 - v13_2).toNat ∧ g = s0 ∧ v13_2 ≤ s0 386 2 ∧ g 386 8 = 0, ?_, ?_⟩
  · skip
    intro x157 ex157 fx157 gx157
    refine ⟨fun h161 => ?_, fun h161 => ?_⟩
    · skip
      exact MP.stop hs (by omega)
    · skip
      intro x162 ex162 fx162 gx162
      exact ⟨_, rfl, rfl, by omega, by omega⟩
  · intro n g v13_1 v13_2 rg qv13_20 qv13_21 hI
    obtain ⟨hn, hg, hv, hk⟩ := hI
    have hsg : SG g := by
      rw [hg]
      exact hs
    have h2 : g 386 2 = s0 386 2 := by rw [hg]
    intro x1 ex1 fx1 gx1
    refine ⟨fun h5 => ?_, fun h5 => ?_⟩
    · skip
      intro x9 ex9 fx9 gx9
      refine ⟨fun h10 => ?_, fun h10 => ?_⟩
      · skip
        refine ⟨fun h14 => ?_, fun h14 => ?_⟩
        · skip
          intro x15 ex15 fx15 gx15
          refine ⟨fun h19 => ?_, fun h19 => ?_⟩
          · skip
            refine ⟨fun g' => MP g g', ?_, ?_⟩
            · skip
              exact v_2340 hsg
            · skip
              intro g25 rg25 qg25
              have m : MP g g25 := qg25
              rw [hg] at m
              exact m
          · skip
            intro x27 ex27
            refine ⟨fun h31 => ?_, fun h31 => ?_⟩
            · skip
              refine ⟨fun g' => MP g g', ?_, ?_⟩
              · skip
                exact v_2340 hsg
              · skip
                intro g37 rg37 qg37
                have m : MP g g37 := qg37
                rw [hg] at m
                exact m
            · skip
              refine ⟨fun h39 => ?_, fun h39 => ?_⟩
              · skip
                refine ⟨fun g' => MP g g', ?_, ?_⟩
                · skip
                  exact v_2340 hsg
                · skip
                  intro g45 rg45 qg45
                  have m : MP g g45 := qg45
                  rw [hg] at m
                  exact m
              · skip
                refine ⟨fun h47 => ?_, fun h47 => ?_⟩
                · skip
                  intro x48 ex48 fx48 gx48
                  refine ⟨fun h52 => ?_, fun h52 => ?_⟩
                  · skip
                    refine ⟨fun g' => MP g g', ?_, ?_⟩
                    · skip
                      exact v_2340 hsg
                    · skip
                      intro g58 rg58 qg58
                      have m : MP g g58 := qg58
                      rw [hg] at m
                      exact m
                  · skip
                    intro g64 eg64
                    intro g69 eg69
                    refine ⟨fun g' => MP g69 g', ?_, ?_⟩
                    · skip
                      have e2 : g69 = blF g 5 v13_2 := by
                        rw [eg69, eg64]
                        rfl
                      rw [e2]
                      exact v_2340 (blF_sg hsg (by decide) (by decide))
                    · skip
                      intro g75 rg75 qg75
                      have e2 : g69 = blF g 5 v13_2 := by
                        rw [eg69, eg64]
                        rfl
                      have m : MP g69 g75 := qg75
                      rw [e2, hg] at m
                      rw [hg] at hk
                      exact (MP.bl hs hk (by decide) (by decide)).trans m.wp
                · skip
                  refine ⟨fun g' => MP g g', ?_, ?_⟩
                  · skip
                    exact v_2340 hsg
                  · skip
                    intro g82 rg82 qg82
                    have m : MP g g82 := qg82
                    rw [hg] at m
                    exact m
        · skip
          intro x84 ex84
          exact ⟨_, by omega, rfl, hg, by omega, hk⟩
      · skip
        intro x86 ex86
        exact ⟨_, by omega, rfl, hg, by omega, hk⟩
    · skip
      intro x88 ex88 fx88 gx88
      refine ⟨fun h92 => ?_, fun h92 => ?_⟩
      · skip
        refine ⟨fun g' => MP g g', ?_, ?_⟩
        · skip
          exact v_2340 hsg
        · skip
          intro g98 rg98 qg98
          have m : MP g g98 := qg98
          rw [hg] at m
          exact m
      · skip
        intro x100 ex100
        refine ⟨fun h104 => ?_, fun h104 => ?_⟩
        · skip
          refine ⟨fun g' => MP g g', ?_, ?_⟩
          · skip
            exact v_2340 hsg
          · skip
            intro g110 rg110 qg110
            have m : MP g g110 := qg110
            rw [hg] at m
            exact m
        · skip
          refine ⟨fun h112 => ?_, fun h112 => ?_⟩
          · skip
            refine ⟨fun g' => MP g g', ?_, ?_⟩
            · skip
              exact v_2340 hsg
            · skip
              intro g118 rg118 qg118
              have m : MP g g118 := qg118
              rw [hg] at m
              exact m
          · skip
            refine ⟨fun h120 => ?_, fun h120 => ?_⟩
            · skip
              intro x121 ex121 fx121 gx121
              refine ⟨fun h125 => ?_, fun h125 => ?_⟩
              · skip
                refine ⟨fun g' => MP g g', ?_, ?_⟩
                · skip
                  exact v_2340 hsg
                · skip
                  intro g131 rg131 qg131
                  have m : MP g g131 := qg131
                  rw [hg] at m
                  exact m
              · skip
                intro g137 eg137
                intro g142 eg142
                refine ⟨fun g' => MP g142 g', ?_, ?_⟩
                · skip
                  have e2 : g142 = blF g 5 v13_2 := by
                    rw [eg142, eg137]
                    rfl
                  rw [e2]
                  exact v_2340 (blF_sg hsg (by decide) (by decide))
                · skip
                  intro g148 rg148 qg148
                  have e2 : g142 = blF g 5 v13_2 := by
                    rw [eg142, eg137]
                    rfl
                  have m : MP g142 g148 := qg148
                  rw [e2, hg] at m
                  rw [hg] at hk
                  exact (MP.bl hs hk (by decide) (by decide)).trans m.wp
            · skip
              refine ⟨fun g' => MP g g', ?_, ?_⟩
              · skip
                exact v_2340 hsg
              · skip
                intro g155 rg155 qg155
                have m : MP g g155 := qg155
                rw [hg] at m
                exact m
