/-! pure proofs of the class (wip/safe/vcp.py) -/
set_option maxHeartbeats 4000000 in
theorem v_2073 {s0 : zF} {a0 : Int} (h : CI s0) (hh0 : 0 ≤ s0 77 0) (hh1 : s0 77 0 ≤ 20) : b_2073 s0 a0 (fun _ g => CI g) := by
  refine ⟨fun n g v55_1 v55_2 v55_3 => n = (200 - v55_3).toNat ∧ CI g, ?_, ?_⟩
  · skip
    refine ⟨fun h38 => ?_, fun h38 => ?_⟩
    · skip
      intro g42 rg42 
      have C0 : CI s0 := h
      have C1 : CI g42 := by
        exact C0.fr rg42 (by decide)
      exact C1
    · skip
      refine ⟨fun h44 => ?_, fun h44 => ?_⟩
      · skip
        intro g48 rg48 
        have C0 : CI s0 := h
        have C1 : CI g48 := by
          exact C0.fr rg48 (by decide)
        exact C1
      · skip
        intro x50 ex50 fx50 gx50
        refine ⟨fun h54 => ?_, fun h54 => ?_⟩
        · skip
          intro x55 ex55
          refine ⟨fun h59 => ?_, fun h59 => ?_⟩
          · skip
            refine ⟨fun g' => CI g', ?_, ?_⟩
            · skip
              exact v_2074 h hh0 hh1
            · skip
              intro g65 rg65 qg65
              intro x67 ex67 fx67
              have C0 : CI s0 := h
              have C1 : CI g65 := qg65
              exact ⟨_, rfl, C1⟩
          · skip
            intro g74 rg74 
            have C0 : CI s0 := h
            have C1 : CI g74 := by
              exact C0.fr rg74 (by decide)
            exact C1
        · skip
          intro g79 rg79 
          have C0 : CI s0 := h
          have C1 : CI g79 := by
            exact C0.fr rg79 (by decide)
          exact C1
  · intro n g v55_1 v55_2 v55_3 rg qv55_10 qv55_11 qv55_20 qv55_21 qv55_30 qv55_31 hI
    obtain ⟨hn, hc⟩ := hI
    refine ⟨fun h1 => ?_, fun h1 => ?_⟩
    · skip
      intro x2 ex2
      refine ⟨fun h6 => ?_, fun h6 => ?_⟩
      · skip
        intro b7 eb7 fb7
        intro x13 ex13 fx13
        intro g18 rg18 
        intro x20 ex20
        intro x24 ex24
        have C0 : CI g := hc
        have C1 : CI g18 := by
          first
            | exact C0.fr rg18 (by decide)
            | (rcases fb7 with z | z <;> (subst z; exact C0.fr rg18 (by decide)))
        exact ⟨_, by omega, rfl, C1⟩
      · skip
        intro x26 ex26 fx26
        intro x30 ex30
        have C0 : CI g := hc
        exact C0
    · skip
      intro x32 ex32 fx32
      intro x36 ex36
      have C0 : CI g := hc
      exact C0
set_option maxHeartbeats 4000000 in
theorem v_2075 {s0 : zF} {a0 a1 : Int} (h : CI s0) (hh0 : 0 ≤ s0 77 0) (hh1 : s0 77 0 ≤ 20) : b_2075 s0 a0 a1 (fun _ g => CI g) := by
  unfold b_2075
  refine ⟨fun h1 => ?_, fun h1 => ?_⟩
  · skip
    intro g5 rg5 
    have C0 : CI s0 := h
    have C1 : CI g5 := by
      exact C0.fr rg5 (by decide)
    exact C1
  · skip
    intro b7 eb7 fb7
    intro x11 ex11 fx11 gx11
    refine ⟨fun h15 => ?_, fun h15 => ?_⟩
    · skip
      refine ⟨fun h16 => ?_, fun h16 => ?_⟩
      · skip
        intro g20 rg20 
        have C0 : CI s0 := h
        have C1 : CI g20 := by
          first
            | exact C0.fr rg20 (by decide)
            | (rcases fb7 with z | z <;> (subst z; exact C0.fr rg20 (by decide)))
        exact C1
      · skip
        intro x22 ex22 fx22 gx22
        refine ⟨fun h26 => ?_, fun h26 => ?_⟩
        · skip
          intro x30 hx301 hx302 g33 rg33 
          refine ⟨fun h35 => ?_, fun h35 => ?_⟩
          · skip
            refine ⟨fun g' => CI g', ?_, ?_⟩
            · skip
              have C0 : CI s0 := h
              have C1 : CI g33 := by
                first
                  | exact C0.fr rg33 (by decide)
                  | (rcases fb7 with z | z <;> (subst z; exact C0.fr rg33 (by decide)))
              have d0 : g33 77 0 = s0 77 0 := by
                first
                  | exact rg33.s (by decide)
                  | (rcases fb7 with z | z <;> (subst z; exact rg33.s (by decide)))
              exact v_2074 C1 (by omega) (by omega)
            · skip
              intro g41 rg41 qg41
              intro x46 ex46 fx46
              intro x51 hx511 hx512 g54 rg54 
              intro x56 ex56
              have C0 : CI s0 := h
              have C1 : CI g33 := by
                first
                  | exact C0.fr rg33 (by decide)
                  | (rcases fb7 with z | z <;> (subst z; exact C0.fr rg33 (by decide)))
              have C2 : CI g41 := qg41
              have C3 : CI g54 := by
                first
                  | exact C2.fr rg54 (by decide)
                  | (rcases fb7 with z | z <;> (subst z; exact C2.fr rg54 (by decide)))
              exact C3
          · skip
            intro g62 rg62 
            have C0 : CI s0 := h
            have C1 : CI g33 := by
              first
                | exact C0.fr rg33 (by decide)
                | (rcases fb7 with z | z <;> (subst z; exact C0.fr rg33 (by decide)))
            have C2 : CI g62 := by
              first
                | exact C1.fr rg62 (by decide)
                | (rcases fb7 with z | z <;> (subst z; exact C1.fr rg62 (by decide)))
            exact C2
        · skip
          intro g67 rg67 
          have C0 : CI s0 := h
          have C1 : CI g67 := by
            first
              | exact C0.fr rg67 (by decide)
              | (rcases fb7 with z | z <;> (subst z; exact C0.fr rg67 (by decide)))
          exact C1
    · skip
      intro g72 rg72 
      have C0 : CI s0 := h
      have C1 : CI g72 := by
        first
          | exact C0.fr rg72 (by decide)
          | (rcases fb7 with z | z <;> (subst z; exact C0.fr rg72 (by decide)))
      exact C1
set_option maxHeartbeats 4000000 in
theorem v_2076 {s0 : zF} {a0 a1 : Int} (h : CI s0) (hh0 : 0 ≤ s0 77 0) (hh1 : s0 77 0 ≤ 20) : b_2076 s0 a0 a1 (fun _ g => CI g) := by
  unfold b_2076
  refine ⟨fun h1 => ?_, fun h1 => ?_⟩
  · skip
    intro g5 rg5 
    have C0 : CI s0 := h
    have C1 : CI g5 := by
      exact C0.fr rg5 (by decide)
    exact C1
  · skip
    intro b7 eb7 fb7
    intro x11 ex11 fx11 gx11
    refine ⟨fun h15 => ?_, fun h15 => ?_⟩
    · skip
      intro x19 ex19 fx19 gx19
      refine ⟨fun h20 => ?_, fun h20 => ?_⟩
      · skip
        intro g24 rg24 
        have C0 : CI s0 := h
        have C1 : CI g24 := by
          first
            | exact C0.fr rg24 (by decide)
            | (rcases fb7 with z | z <;> (subst z; exact C0.fr rg24 (by decide)))
        exact C1
      · skip
        refine ⟨fun g' => CI g', ?_, ?_⟩
        · skip
          exact v_2074 h hh0 hh1
        · skip
          intro g31 rg31 qg31
          refine ⟨fun h33 => ?_, fun h33 => ?_⟩
          · skip
            intro g37 rg37 
            have C0 : CI s0 := h
            have C1 : CI g31 := qg31
            have C2 : CI g37 := by
              first
                | exact C1.fr rg37 (by decide)
                | (rcases fb7 with z | z <;> (subst z; exact C1.fr rg37 (by decide)))
            exact C2
          · skip
            intro g43 eg43
            have C0 : CI s0 := h
            have C1 : CI g31 := qg31
            have C2 : CI g43 := by
              rw [eg43]
              exact C1.upa (by decide)
            exact C2
    · skip
      intro g47 rg47 
      have C0 : CI s0 := h
      have C1 : CI g47 := by
        first
          | exact C0.fr rg47 (by decide)
          | (rcases fb7 with z | z <;> (subst z; exact C0.fr rg47 (by decide)))
      exact C1
set_option maxHeartbeats 4000000 in
theorem v_2077 {s0 : zF} {a0 a1 : Int} (h : CI s0) (hh0 : 0 ≤ s0 77 0) (hh1 : s0 77 0 ≤ 20) : b_2077 s0 a0 a1 (fun _ g => CI g) := by
  unfold b_2077
  refine ⟨fun h1 => ?_, fun h1 => ?_⟩
  · skip
    intro g5 rg5 
    have C0 : CI s0 := h
    have C1 : CI g5 := by
      exact C0.fr rg5 (by decide)
    exact C1
  · skip
    intro x7 ex7 fx7 gx7
    intro x11 ex11
    refine ⟨fun h13 => ?_, fun h13 => ?_⟩
    · skip
      intro x17 ex17 fx17 gx17
      refine ⟨fun h18 => ?_, fun h18 => ?_⟩
      · skip
        refine ⟨fun g' => CI g', ?_, ?_⟩
        · skip
          exact v_2074 h hh0 hh1
        · skip
          intro g24 rg24 qg24
          intro g30 eg30
          have C0 : CI s0 := h
          have C1 : CI g24 := qg24
          have C2 : CI g30 := by
            rw [eg30]
            exact C1.upa (by decide)
          exact C2
      · skip
        intro g34 rg34 
        have C0 : CI s0 := h
        have C1 : CI g34 := by
          exact C0.fr rg34 (by decide)
        exact C1
    · skip
      intro g39 rg39 
      have C0 : CI s0 := h
      have C1 : CI g39 := by
        exact C0.fr rg39 (by decide)
      exact C1
set_option maxHeartbeats 4000000 in
theorem v_2078 {s0 : zF} {a0 a1 : Int} (h : CI s0) (hh0 : 0 ≤ s0 77 0) (hh1 : s0 77 0 ≤ 20) : b_2078 s0 a0 a1 (fun _ g => CI g) := by
  unfold b_2078
  refine ⟨fun h1 => ?_, fun h1 => ?_⟩
  · skip
    intro g5 rg5 
    have C0 : CI s0 := h
    have C1 : CI g5 := by
      exact C0.fr rg5 (by decide)
    exact C1
  · skip
    intro x7 ex7 fx7 gx7
    intro x11 ex11
    refine ⟨fun h13 => ?_, fun h13 => ?_⟩
    · skip
      refine ⟨fun h14 => ?_, fun h14 => ?_⟩
      · skip
        intro g18 rg18 
        have C0 : CI s0 := h
        have C1 : CI g18 := by
          exact C0.fr rg18 (by decide)
        exact C1
      · skip
        refine ⟨fun h20 => ?_, fun h20 => ?_⟩
        · skip
          intro g24 rg24 
          have C0 : CI s0 := h
          have C1 : CI g24 := by
            exact C0.fr rg24 (by decide)
          exact C1
        · skip
          refine ⟨fun g' => CI g', ?_, ?_⟩
          · skip
            exact v_2074 h hh0 hh1
          · skip
            intro g31 rg31 qg31
            intro x36 ex36 fx36 gx36
            intro g41 eg41
            have C0 : CI s0 := h
            have C1 : CI g31 := qg31
            have C2 : CI g41 := by
              rw [eg41]
              exact C1.upa (by decide)
            exact C2
    · skip
      intro g45 rg45 
      have C0 : CI s0 := h
      have C1 : CI g45 := by
        exact C0.fr rg45 (by decide)
      exact C1
set_option maxHeartbeats 4000000 in
theorem v_2079 {s0 : zF} {a0 a1 : Int} (h : CI s0) (hh0 : 0 ≤ s0 77 0) (hh1 : s0 77 0 ≤ 20) : b_2079 s0 a0 a1 (fun _ g => CI g) := by
  unfold b_2079
  refine ⟨fun h1 => ?_, fun h1 => ?_⟩
  · skip
    intro g5 rg5 
    have C0 : CI s0 := h
    have C1 : CI g5 := by
      exact C0.fr rg5 (by decide)
    exact C1
  · skip
    intro x7 ex7 fx7 gx7
    refine ⟨fun h11 => ?_, fun h11 => ?_⟩
    · skip
      refine ⟨fun h12 => ?_, fun h12 => ?_⟩
      · skip
        intro g16 rg16 
        have C0 : CI s0 := h
        have C1 : CI g16 := by
          exact C0.fr rg16 (by decide)
        exact C1
      · skip
        refine ⟨fun h18 => ?_, fun h18 => ?_⟩
        · skip
          refine ⟨fun h19 => ?_, fun h19 => ?_⟩
          · skip
            refine ⟨fun g' => CI g', ?_, ?_⟩
            · skip
              exact v_2074 h hh0 hh1
            · skip
              intro g25 rg25 qg25
              intro g30 rg30 
              have C0 : CI s0 := h
              have C1 : CI g25 := qg25
              have C2 : CI g30 := by
                exact C1.fr rg30 (by decide)
              exact C2
          · skip
            intro g35 rg35 
            have C0 : CI s0 := h
            have C1 : CI g35 := by
              exact C0.fr rg35 (by decide)
            exact C1
        · skip
          intro g40 rg40 
          have C0 : CI s0 := h
          have C1 : CI g40 := by
            exact C0.fr rg40 (by decide)
          exact C1
    · skip
      intro g45 rg45 
      have C0 : CI s0 := h
      have C1 : CI g45 := by
        exact C0.fr rg45 (by decide)
      exact C1
set_option maxHeartbeats 4000000 in
theorem v_2088 {s0 : zF} (h : CI s0) (hh0 : 0 ≤ s0 77 0) (hh1 : s0 77 0 ≤ 20) : b_2088 s0  (fun _ g => CI g) := by
  unfold b_2088
  intro x1 ex1 fx1 gx1
  refine ⟨fun h5 => ?_, fun h5 => ?_⟩
  · skip
    intro g9 rg9 
    have C0 : CI s0 := h
    have C1 : CI g9 := by
      exact C0.fr rg9 (by decide)
    exact C1
  · skip
    intro b11 eb11 fb11
    intro x15 ex15
    intro g22 rg22 
    intro x24 ex24
    refine ⟨fun h28 => ?_, fun h28 => ?_⟩
    · skip
      refine ⟨fun g' => CI g', ?_, ?_⟩
      · skip
        have C0 : CI s0 := h
        have C1 : CI g22 := by
          first
            | exact C0.fr rg22 (by decide)
            | (rcases fb11 with z | z <;> (subst z; exact C0.fr rg22 (by decide)))
        have d0 : g22 77 0 = s0 77 0 := by
          first
            | exact rg22.s (by decide)
            | (rcases fb11 with z | z <;> (subst z; exact rg22.s (by decide)))
        exact v_2074 C1 (by omega) (by omega)
      · skip
        intro g34 rg34 qg34
        intro g39 eg39
        have C0 : CI s0 := h
        have C1 : CI g22 := by
          first
            | exact C0.fr rg22 (by decide)
            | (rcases fb11 with z | z <;> (subst z; exact C0.fr rg22 (by decide)))
        have C2 : CI g34 := qg34
        have C3 : CI g39 := C2.cp eg39 (by decide)
        exact C3
    · skip
      have C0 : CI s0 := h
      have C1 : CI g22 := by
        first
          | exact C0.fr rg22 (by decide)
          | (rcases fb11 with z | z <;> (subst z; exact C0.fr rg22 (by decide)))
      exact C1
set_option maxHeartbeats 4000000 in
theorem v_2103 {s0 : zF} {a0 a1 a2 : Int} (h : CI s0) : b_2103 s0 a0 a1 a2 (fun _ g => CI g) := by
  refine ⟨fun n g v67_1 v67_2 v67_3 v67_4 v67_5 v67_6 v67_7 => n = (1000 * (30 - v67_7) + 900).toNat ∧ CI g ∧ g 63 0 = g 49 0, fun n g v76_1 v76_2 v76_3 v76_4 v76_5 v76_6 v76_7 v76_8 => n = (1000 * (30 - v76_7) + 500 - v76_8).toNat ∧ CI g ∧ g 63 0 = g 49 0, fun n g v116_1 v116_2 v116_3 v116_4 v116_5 v116_6 v116_7 => n = (1000 * (30 - v116_7) + 100).toNat ∧ CI g ∧ g 63 0 = g 49 0, ?_, ?_, ?_, ?_⟩
  · skip
    refine ⟨fun h79 => ?_, fun h79 => ?_⟩
    · skip
      exact h
    · skip
      refine ⟨fun h80 => ?_, fun h80 => ?_⟩
      · skip
        exact h
      · skip
        refine ⟨fun h81 => ?_, fun h81 => ?_⟩
        · skip
          exact h
        · skip
          refine ⟨fun h82 => ?_, fun h82 => ?_⟩
          · skip
            exact h
          · skip
            refine ⟨fun h83 => ?_, fun h83 => ?_⟩
            · skip
              exact h
            · skip
              refine ⟨fun h84 => ?_, fun h84 => ?_⟩
              · skip
                exact h
              · skip
                intro x85 ex85 fx85 gx85
                refine ⟨fun h89 => ?_, fun h89 => ?_⟩
                · skip
                  exact h
                · skip
                  refine ⟨fun g' => g' 63 0 = s0 49 0, ?_, ?_⟩
                  · skip
                    exact v_1542
                  · skip
                    intro g95 rg95 qg95
                    have q : g95 63 0 = s0 49 0 := qg95
                    exact ⟨_, rfl, h.fr rg95 (by decide), q.trans (rg95.s (by decide)).symm⟩
  · intro n g v67_1 v67_2 v67_3 v67_4 v67_5 v67_6 v67_7 rg qv67_10 qv67_11 qv67_20 qv67_21 qv67_30 qv67_31 qv67_70 qv67_71 hI
    obtain ⟨hn, hc, hev⟩ := hI
    refine ⟨fun h1 => ?_, fun h1 => ?_⟩
    · skip
      exact ⟨_, by omega, rfl, hc, hev⟩
    · skip
      refine ⟨fun h2 => ?_, fun h2 => ?_⟩
      · skip
        refine ⟨fun h3 => ?_, fun h3 => ?_⟩
        · skip
          exact hc
        · skip
          exact hc
      · skip
        exact hc
  · intro n g v76_1 v76_2 v76_3 v76_4 v76_5 v76_6 v76_7 v76_8 rg qv76_10 qv76_11 qv76_20 qv76_21 qv76_30 qv76_31 qv76_70 qv76_71 qv76_80 qv76_81 hI
    obtain ⟨hn, hc, hev⟩ := hI
    refine ⟨fun h4 => ?_, fun h4 => ?_⟩
    · skip
      intro x5 ex5
      refine ⟨fun h9 => ?_, fun h9 => ?_⟩
      · skip
        intro b10 eb10 fb10
        intro x16 ex16 fx16
        intro g21 rg21 
        intro x23 ex23
        intro x27 ex27
        have C0 : CI g := hc
        have C1 : CI g21 := by
          first
            | exact C0.fr rg21 (by decide)
            | (rcases fb10 with z | z <;> (subst z; exact C0.fr rg21 (by decide)))
        have d1 : g21 63 0 = g 63 0 ∧ g21 49 0 = g 49 0 := by
          rcases fb10 with z | z <;> (subst z; exact ⟨rg21.s (by decide), rg21.s (by decide)⟩)
        exact ⟨_, by omega, rfl, C1, by omega⟩
      · skip
        exact ⟨_, by omega, rfl, hc, hev⟩
    · skip
      exact ⟨_, by omega, rfl, hc, hev⟩
  · intro n g v116_1 v116_2 v116_3 v116_4 v116_5 v116_6 v116_7 rg qv116_10 qv116_11 qv116_20 qv116_21 qv116_30 qv116_31 qv116_70 qv116_71 hI
    obtain ⟨hn, hc, hev⟩ := hI
    intro x29 ex29 fx29
    intro x33 ex33 fx33
    intro x37 ex37
    intro x39 
    intro x43 g46 rg46 
    intro x48 
    intro x52 hx521 hx522 g55 rg55 
    refine ⟨fun h57 => ?_, fun h57 => ?_⟩
    · skip
      intro x58 
      refine ⟨fun g' => g' 49 0 = g55 63 0, ?_, ?_⟩
      · skip
        exact v_1542
      · skip
        intro g64 rg64 qg64
        intro x66 ex66
        have E1 : g46 = g := zFr_nl rg46
        have E2 : g55 = g := (zFr_nl rg55).trans E1
        have q : g64 49 0 = g55 63 0 := qg64
        rw [E2] at q
        have F : zFr [(49, 50, 0), (49, 50, 1), (50, 63, 1000), (49, 50, 14)] g g64 := E2 ▸ rg64
        refine ⟨_, ?_, rfl, hc.rope F (by decide) (q.trans hev), ?_⟩
        · omega
        · rw [F.s (a := 63) (k := 0) (by decide), q]
    · skip
      intro x68 ex68
      refine ⟨fun g' => g' 49 0 = g55 63 0, ?_, ?_⟩
      · skip
        exact v_1542
      · skip
        intro g75 rg75 qg75
        intro x77 ex77
        have E1 : g46 = g := zFr_nl rg46
        have E2 : g55 = g := (zFr_nl rg55).trans E1
        have q : g75 49 0 = g55 63 0 := qg75
        rw [E2] at q
        have F : zFr [(49, 50, 0), (49, 50, 1), (50, 63, 1000), (49, 50, 14)] g g75 := E2 ▸ rg75
        refine ⟨_, ?_, rfl, hc.rope F (by decide) (q.trans hev), ?_⟩
        · omega
        · rw [F.s (a := 63) (k := 0) (by decide), q]
