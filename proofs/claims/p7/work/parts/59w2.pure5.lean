/-! pure proofs of the class (wip/safe/gen35.py) -/
set_option maxHeartbeats 4000000 in
theorem v_2073 {N : Nat} {s0 : zF} {a0 : Int} (h : CI s0) (hh0 : 0 ≤ s0 77 0) (hh1 : s0 77 0 ≤ 20) (ht : s0 49 14 + 2400 ≤ 3000 * (N : Int)) : b_2073 N s0 a0 (fun _ g => CI g) := by
  refine ⟨fun n g v55_1 v55_2 v55_3 => n = (200 - v55_3).toNat ∧ CI g ∧ g 49 14 ≤ s0 49 14 + 24 * v55_3, ?_, ?_⟩
  · skip
    refine ⟨fun h39 => ?_, fun h39 => ?_⟩
    · skip
      intro g43 rg43 
      have C0 : CI s0 := h
      have C1 : CI g43 := by
        exact C0.fr rg43 (by decide)
      exact C1
    · skip
      refine ⟨fun h45 => ?_, fun h45 => ?_⟩
      · skip
        intro g49 rg49 
        have C0 : CI s0 := h
        have C1 : CI g49 := by
          exact C0.fr rg49 (by decide)
        exact C1
      · skip
        intro x51 ex51 fx51 gx51
        refine ⟨fun h55 => ?_, fun h55 => ?_⟩
        · skip
          intro x56 ex56
          refine ⟨fun h60 => ?_, fun h60 => ?_⟩
          · skip
            refine ⟨fun g' => CI g', ?_, ?_⟩
            · skip
              exact v_2074 h hh0 hh1
            · skip
              intro g66 rg66 qg66
              intro x68 ex68 fx68
              have C0 : CI s0 := h
              have C1 : CI g66 := qg66
              have d : g66 49 14 = s0 49 14 := rg66.s (by decide)
              exact ⟨_, rfl, C1, by omega⟩
          · skip
            intro g75 rg75 
            have C0 : CI s0 := h
            have C1 : CI g75 := by
              exact C0.fr rg75 (by decide)
            exact C1
        · skip
          intro g80 rg80 
          have C0 : CI s0 := h
          have C1 : CI g80 := by
            exact C0.fr rg80 (by decide)
          exact C1
  · intro n g v55_1 v55_2 v55_3 rg qv55_10 qv55_11 qv55_20 qv55_21 qv55_30 qv55_31 hI
    obtain ⟨hn, hc, htg⟩ := hI
    refine ⟨fun h1 => ?_, fun h1 => ?_⟩
    · skip
      intro x2 ex2
      refine ⟨fun h6 => ?_, fun h6 => ?_⟩
      · skip
        intro b7 eb7 fb7
        intro x13 ex13 fx13
        have oh17 : (x13 + 24 ≤ 3000 * (N : Int)) := by
          omega
        refine ⟨oh17, ?_⟩
        intro g19 rg19 
        intro x21 ex21 fx21 gx21
        intro x25 ex25
        have C0 : CI g := hc
        have C1 : CI g19 := by
          first
            | exact C0.fr rg19 (by decide)
            | (rcases fb7 with z | z <;> (subst z; exact C0.fr rg19 (by decide)))
        exact ⟨_, by omega, rfl, C1, by omega⟩
      · skip
        intro x27 ex27 fx27
        intro x31 ex31
        have C0 : CI g := hc
        exact C0
    · skip
      intro x33 ex33 fx33
      intro x37 ex37
      have C0 : CI g := hc
      exact C0
set_option maxHeartbeats 4000000 in
theorem v_2075 {N : Nat} {s0 : zF} {a0 a1 : Int} (h : CI s0) (hh0 : 0 ≤ s0 77 0) (hh1 : s0 77 0 ≤ 20) (ht : s0 49 14 + 2400 ≤ 3000 * (N : Int)) : b_2075 N s0 a0 a1 (fun _ g => CI g) := by
  unfold b_2075
  refine ⟨fun h1 => ?_, fun h1 => ?_⟩
  · skip
    intro g5 rg5 
    have C0 : CI s0 := h
    have C1 : CI g5 := by
      exact C0.fr rg5 (by decide)
    exact C1
  · skip
    intro b7 eb7 fb7
    intro x11 ex11 fx11 gx11
    refine ⟨fun h15 => ?_, fun h15 => ?_⟩
    · skip
      refine ⟨fun h16 => ?_, fun h16 => ?_⟩
      · skip
        intro g20 rg20 
        have C0 : CI s0 := h
        have C1 : CI g20 := by
          first
            | exact C0.fr rg20 (by decide)
            | (rcases fb7 with z | z <;> (subst z; exact C0.fr rg20 (by decide)))
        exact C1
      · skip
        intro x22 ex22 fx22 gx22
        refine ⟨fun h26 => ?_, fun h26 => ?_⟩
        · skip
          intro x30 hx301 hx302 g33 rg33 
          refine ⟨fun h35 => ?_, fun h35 => ?_⟩
          · skip
            refine ⟨fun g' => CI g', ?_, ?_⟩
            · skip
              have C0 : CI s0 := h
              have C1 : CI g33 := by
                first
                  | exact C0.fr rg33 (by decide)
                  | (rcases fb7 with z | z <;> (subst z; exact C0.fr rg33 (by decide)))
              have d0 : g33 77 0 = s0 77 0 := by
                first
                  | exact rg33.s (by decide)
                  | (rcases fb7 with z | z <;> (subst z; exact rg33.s (by decide)))
              exact v_2074 C1 (by omega) (by omega)
            · skip
              intro g41 rg41 qg41
              intro x46 ex46 fx46
              have oh50 : (x46 + 1 ≤ 3000 * (N : Int)) := by
                have d1 : g33 49 14 = s0 49 14 := rg33.s (by decide)
                have d2 : g41 49 14 = g33 49 14 := rg41.s (by decide)
                omega
              refine ⟨oh50, ?_⟩
              intro x52 hx521 hx522 g55 rg55 
              intro x57 ex57 fx57
              have C0 : CI s0 := h
              have C1 : CI g33 := by
                first
                  | exact C0.fr rg33 (by decide)
                  | (rcases fb7 with z | z <;> (subst z; exact C0.fr rg33 (by decide)))
              have C2 : CI g41 := qg41
              have C3 : CI g55 := by
                first
                  | exact C2.fr rg55 (by decide)
                  | (rcases fb7 with z | z <;> (subst z; exact C2.fr rg55 (by decide)))
              exact C3
          · skip
            intro g63 rg63 
            have C0 : CI s0 := h
            have C1 : CI g33 := by
              first
                | exact C0.fr rg33 (by decide)
                | (rcases fb7 with z | z <;> (subst z; exact C0.fr rg33 (by decide)))
            have C2 : CI g63 := by
              first
                | exact C1.fr rg63 (by decide)
                | (rcases fb7 with z | z <;> (subst z; exact C1.fr rg63 (by decide)))
            exact C2
        · skip
          intro g68 rg68 
          have C0 : CI s0 := h
          have C1 : CI g68 := by
            first
              | exact C0.fr rg68 (by decide)
              | (rcases fb7 with z | z <;> (subst z; exact C0.fr rg68 (by decide)))
          exact C1
    · skip
      intro g73 rg73 
      have C0 : CI s0 := h
      have C1 : CI g73 := by
        first
          | exact C0.fr rg73 (by decide)
          | (rcases fb7 with z | z <;> (subst z; exact C0.fr rg73 (by decide)))
      exact C1
set_option maxHeartbeats 4000000 in
theorem v_2076 {s0 : zF} {a0 a1 : Int} (h : CI s0) (hh0 : 0 ≤ s0 77 0) (hh1 : s0 77 0 ≤ 20) : b_2076 s0 a0 a1 (fun _ g => CI g) := by
  unfold b_2076
  refine ⟨fun h1 => ?_, fun h1 => ?_⟩
  · skip
    intro g5 rg5 
    have C0 : CI s0 := h
    have C1 : CI g5 := by
      exact C0.fr rg5 (by decide)
    exact C1
  · skip
    intro b7 eb7 fb7
    intro x11 ex11 fx11 gx11
    refine ⟨fun h15 => ?_, fun h15 => ?_⟩
    · skip
      intro x19 ex19 fx19 gx19
      refine ⟨fun h20 => ?_, fun h20 => ?_⟩
      · skip
        intro g24 rg24 
        have C0 : CI s0 := h
        have C1 : CI g24 := by
          first
            | exact C0.fr rg24 (by decide)
            | (rcases fb7 with z | z <;> (subst z; exact C0.fr rg24 (by decide)))
        exact C1
      · skip
        refine ⟨fun g' => CI g', ?_, ?_⟩
        · skip
          exact v_2074 h hh0 hh1
        · skip
          intro g31 rg31 qg31
          refine ⟨fun h33 => ?_, fun h33 => ?_⟩
          · skip
            intro g37 rg37 
            have C0 : CI s0 := h
            have C1 : CI g31 := qg31
            have C2 : CI g37 := by
              first
                | exact C1.fr rg37 (by decide)
                | (rcases fb7 with z | z <;> (subst z; exact C1.fr rg37 (by decide)))
            exact C2
          · skip
            intro g43 eg43
            have C0 : CI s0 := h
            have C1 : CI g31 := qg31
            have C2 : CI g43 := by
              rw [eg43]
              exact C1.upa (by decide)
            exact C2
    · skip
      intro g47 rg47 
      have C0 : CI s0 := h
      have C1 : CI g47 := by
        first
          | exact C0.fr rg47 (by decide)
          | (rcases fb7 with z | z <;> (subst z; exact C0.fr rg47 (by decide)))
      exact C1
set_option maxHeartbeats 4000000 in
theorem v_2077 {s0 : zF} {a0 a1 : Int} (h : CI s0) (hh0 : 0 ≤ s0 77 0) (hh1 : s0 77 0 ≤ 20) : b_2077 s0 a0 a1 (fun _ g => CI g) := by
  unfold b_2077
  refine ⟨fun h1 => ?_, fun h1 => ?_⟩
  · skip
    intro g5 rg5 
    have C0 : CI s0 := h
    have C1 : CI g5 := by
      exact C0.fr rg5 (by decide)
    exact C1
  · skip
    intro x7 ex7 fx7 gx7
    intro x11 ex11
    refine ⟨fun h13 => ?_, fun h13 => ?_⟩
    · skip
      intro x17 ex17 fx17 gx17
      refine ⟨fun h18 => ?_, fun h18 => ?_⟩
      · skip
        refine ⟨fun g' => CI g', ?_, ?_⟩
        · skip
          exact v_2074 h hh0 hh1
        · skip
          intro g24 rg24 qg24
          intro g30 eg30
          have C0 : CI s0 := h
          have C1 : CI g24 := qg24
          have C2 : CI g30 := by
            rw [eg30]
            exact C1.upa (by decide)
          exact C2
      · skip
        intro g34 rg34 
        have C0 : CI s0 := h
        have C1 : CI g34 := by
          exact C0.fr rg34 (by decide)
        exact C1
    · skip
      intro g39 rg39 
      have C0 : CI s0 := h
      have C1 : CI g39 := by
        exact C0.fr rg39 (by decide)
      exact C1
set_option maxHeartbeats 4000000 in
theorem v_2078 {s0 : zF} {a0 a1 : Int} (h : CI s0) (hh0 : 0 ≤ s0 77 0) (hh1 : s0 77 0 ≤ 20) : b_2078 s0 a0 a1 (fun _ g => CI g) := by
  unfold b_2078
  refine ⟨fun h1 => ?_, fun h1 => ?_⟩
  · skip
    intro g5 rg5 
    have C0 : CI s0 := h
    have C1 : CI g5 := by
      exact C0.fr rg5 (by decide)
    exact C1
  · skip
    intro x7 ex7 fx7 gx7
    intro x11 ex11
    refine ⟨fun h13 => ?_, fun h13 => ?_⟩
    · skip
      refine ⟨fun h14 => ?_, fun h14 => ?_⟩
      · skip
        intro g18 rg18 
        have C0 : CI s0 := h
        have C1 : CI g18 := by
          exact C0.fr rg18 (by decide)
        exact C1
      · skip
        refine ⟨fun h20 => ?_, fun h20 => ?_⟩
        · skip
          intro g24 rg24 
          have C0 : CI s0 := h
          have C1 : CI g24 := by
            exact C0.fr rg24 (by decide)
          exact C1
        · skip
          refine ⟨fun g' => CI g', ?_, ?_⟩
          · skip
            exact v_2074 h hh0 hh1
          · skip
            intro g31 rg31 qg31
            intro x36 ex36 fx36 gx36
            intro g41 eg41
            have C0 : CI s0 := h
            have C1 : CI g31 := qg31
            have C2 : CI g41 := by
              rw [eg41]
              exact C1.upa (by decide)
            exact C2
    · skip
      intro g45 rg45 
      have C0 : CI s0 := h
      have C1 : CI g45 := by
        exact C0.fr rg45 (by decide)
      exact C1
set_option maxHeartbeats 4000000 in
theorem v_2079 {s0 : zF} {a0 a1 : Int} (h : CI s0) (hh0 : 0 ≤ s0 77 0) (hh1 : s0 77 0 ≤ 20) : b_2079 s0 a0 a1 (fun _ g => CI g) := by
  unfold b_2079
  refine ⟨fun h1 => ?_, fun h1 => ?_⟩
  · skip
    intro g5 rg5 
    have C0 : CI s0 := h
    have C1 : CI g5 := by
      exact C0.fr rg5 (by decide)
    exact C1
  · skip
    intro x7 ex7 fx7 gx7
    refine ⟨fun h11 => ?_, fun h11 => ?_⟩
    · skip
      refine ⟨fun h12 => ?_, fun h12 => ?_⟩
      · skip
        intro g16 rg16 
        have C0 : CI s0 := h
        have C1 : CI g16 := by
          exact C0.fr rg16 (by decide)
        exact C1
      · skip
        refine ⟨fun h18 => ?_, fun h18 => ?_⟩
        · skip
          refine ⟨fun h19 => ?_, fun h19 => ?_⟩
          · skip
            refine ⟨fun g' => CI g', ?_, ?_⟩
            · skip
              exact v_2074 h hh0 hh1
            · skip
              intro g25 rg25 qg25
              intro g30 rg30 
              have C0 : CI s0 := h
              have C1 : CI g25 := qg25
              have C2 : CI g30 := by
                exact C1.fr rg30 (by decide)
              exact C2
          · skip
            intro g35 rg35 
            have C0 : CI s0 := h
            have C1 : CI g35 := by
              exact C0.fr rg35 (by decide)
            exact C1
        · skip
          intro g40 rg40 
          have C0 : CI s0 := h
          have C1 : CI g40 := by
            exact C0.fr rg40 (by decide)
          exact C1
    · skip
      intro g45 rg45 
      have C0 : CI s0 := h
      have C1 : CI g45 := by
        exact C0.fr rg45 (by decide)
      exact C1
set_option maxHeartbeats 4000000 in
theorem v_2088 {s0 : zF} (h : CI s0) (hh0 : 0 ≤ s0 77 0) (hh1 : s0 77 0 ≤ 20) : b_2088 s0  (fun _ g => CI g) := by
  unfold b_2088
  intro x1 ex1 fx1 gx1
  refine ⟨fun h5 => ?_, fun h5 => ?_⟩
  · skip
    intro g9 rg9 
    have C0 : CI s0 := h
    have C1 : CI g9 := by
      exact C0.fr rg9 (by decide)
    exact C1
  · skip
    intro b11 eb11 fb11
    intro x15 ex15
    intro g22 rg22 
    intro x24 ex24
    refine ⟨fun h28 => ?_, fun h28 => ?_⟩
    · skip
      refine ⟨fun g' => CI g', ?_, ?_⟩
      · skip
        have C0 : CI s0 := h
        have C1 : CI g22 := by
          first
            | exact C0.fr rg22 (by decide)
            | (rcases fb11 with z | z <;> (subst z; exact C0.fr rg22 (by decide)))
        have d0 : g22 77 0 = s0 77 0 := by
          first
            | exact rg22.s (by decide)
            | (rcases fb11 with z | z <;> (subst z; exact rg22.s (by decide)))
        exact v_2074 C1 (by omega) (by omega)
      · skip
        intro g34 rg34 qg34
        intro g39 eg39
        have C0 : CI s0 := h
        have C1 : CI g22 := by
          first
            | exact C0.fr rg22 (by decide)
            | (rcases fb11 with z | z <;> (subst z; exact C0.fr rg22 (by decide)))
        have C2 : CI g34 := qg34
        have C3 : CI g39 := C2.cp eg39 (by decide)
        exact C3
    · skip
      have C0 : CI s0 := h
      have C1 : CI g22 := by
        first
          | exact C0.fr rg22 (by decide)
          | (rcases fb11 with z | z <;> (subst z; exact C0.fr rg22 (by decide)))
      exact C1
set_option maxHeartbeats 4000000 in
theorem v_2103 {N : Nat} {s0 : zF} {a0 a1 a2 : Int} (h : CI s0) (ht : s0 49 14 + 2400 ≤ 3000 * (N : Int)) : b_2103 N s0 a0 a1 a2 (fun _ g => CI g) := by
  refine ⟨fun n g v67_1 v67_2 v67_3 v67_4 v67_5 v67_6 v67_7 => n = (1000 * (30 - v67_7) + 900).toNat ∧ CI g ∧ g 63 0 = g 49 0 ∧ g 49 14 = s0 49 14 ∧ g 63 14 = s0 49 14, fun n g v76_1 v76_2 v76_3 v76_4 v76_5 v76_6 v76_7 v76_8 => n = (1000 * (30 - v76_7) + 500 - v76_8).toNat ∧ CI g ∧ g 63 0 = g 49 0 ∧ g 49 14 ≤ s0 49 14 + 24 * v76_8 ∧ g 63 14 = s0 49 14, fun n g v116_1 v116_2 v116_3 v116_4 v116_5 v116_6 v116_7 => n = (1000 * (30 - v116_7) + 100).toNat ∧ CI g ∧ g 63 0 = g 49 0 ∧ g 63 14 = s0 49 14, ?_, ?_, ?_, ?_⟩
  · skip
    refine ⟨fun h80 => ?_, fun h80 => ?_⟩
    · skip
      exact h
    · skip
      refine ⟨fun h81 => ?_, fun h81 => ?_⟩
      · skip
        exact h
      · skip
        refine ⟨fun h82 => ?_, fun h82 => ?_⟩
        · skip
          exact h
        · skip
          refine ⟨fun h83 => ?_, fun h83 => ?_⟩
          · skip
            exact h
          · skip
            refine ⟨fun h84 => ?_, fun h84 => ?_⟩
            · skip
              exact h
            · skip
              refine ⟨fun h85 => ?_, fun h85 => ?_⟩
              · skip
                exact h
              · skip
                intro x86 ex86 fx86 gx86
                refine ⟨fun h90 => ?_, fun h90 => ?_⟩
                · skip
                  exact h
                · skip
                  refine ⟨fun g' => g' 63 0 = s0 49 0 ∧ g' 63 14 = s0 49 14, ?_, ?_⟩
                  · skip
                    exact v_1542
                  · skip
                    intro g96 rg96 qg96
                    have q : g96 63 0 = s0 49 0 ∧ g96 63 14 = s0 49 14 := qg96
                    exact ⟨_, rfl, h.fr rg96 (by decide), q.1.trans (rg96.s (by decide)).symm, rg96.s (by decide), q.2⟩
  · intro n g v67_1 v67_2 v67_3 v67_4 v67_5 v67_6 v67_7 rg qv67_10 qv67_11 qv67_20 qv67_21 qv67_30 qv67_31 qv67_70 qv67_71 hI
    obtain ⟨hn, hc, hev, ht1, ht2⟩ := hI
    refine ⟨fun h1 => ?_, fun h1 => ?_⟩
    · skip
      exact ⟨_, by omega, rfl, hc, hev, by omega, ht2⟩
    · skip
      refine ⟨fun h2 => ?_, fun h2 => ?_⟩
      · skip
        refine ⟨fun h3 => ?_, fun h3 => ?_⟩
        · skip
          exact hc
        · skip
          exact hc
      · skip
        exact hc
  · intro n g v76_1 v76_2 v76_3 v76_4 v76_5 v76_6 v76_7 v76_8 rg qv76_10 qv76_11 qv76_20 qv76_21 qv76_30 qv76_31 qv76_70 qv76_71 qv76_80 qv76_81 hI
    obtain ⟨hn, hc, hev, ht1, ht2⟩ := hI
    refine ⟨fun h4 => ?_, fun h4 => ?_⟩
    · skip
      intro x5 ex5
      refine ⟨fun h9 => ?_, fun h9 => ?_⟩
      · skip
        intro b10 eb10 fb10
        intro x16 ex16 fx16
        have oh20 : (x16 + 24 ≤ 3000 * (N : Int)) := by
          omega
        refine ⟨oh20, ?_⟩
        intro g22 rg22 
        intro x24 ex24 fx24 gx24
        intro x28 ex28
        have C0 : CI g := hc
        have C1 : CI g22 := by
          first
            | exact C0.fr rg22 (by decide)
            | (rcases fb10 with z | z <;> (subst z; exact C0.fr rg22 (by decide)))
        have d1 : g22 63 0 = g 63 0 ∧ g22 49 0 = g 49 0 ∧ g22 63 14 = g 63 14 := by
          rcases fb10 with z | z <;> (subst z; exact ⟨rg22.s (by decide), rg22.s (by decide), rg22.s (by decide)⟩)
        exact ⟨_, by omega, rfl, C1, by omega, by omega, by omega⟩
      · skip
        exact ⟨_, by omega, rfl, hc, hev, ht2⟩
    · skip
      exact ⟨_, by omega, rfl, hc, hev, ht2⟩
  · intro n g v116_1 v116_2 v116_3 v116_4 v116_5 v116_6 v116_7 rg qv116_10 qv116_11 qv116_20 qv116_21 qv116_30 qv116_31 qv116_70 qv116_71 hI
    obtain ⟨hn, hc, hev, ht2⟩ := hI
    intro x30 ex30 fx30
    intro x34 ex34 fx34
    intro x38 ex38
    intro x40 
    intro x44 g47 rg47 
    intro x49 
    intro x53 hx531 hx532 g56 rg56 
    refine ⟨fun h58 => ?_, fun h58 => ?_⟩
    · skip
      intro x59 
      refine ⟨fun g' => g' 49 0 = g56 63 0 ∧ g' 49 14 = g56 63 14, ?_, ?_⟩
      · skip
        exact v_1542
      · skip
        intro g65 rg65 qg65
        intro x67 ex67
        have E1 : g47 = g := zFr_nl rg47
        have E2 : g56 = g := (zFr_nl rg56).trans E1
        have q : g65 49 0 = g56 63 0 ∧ g65 49 14 = g56 63 14 := qg65
        rw [E2] at q
        have F : zFr [(49, 50, 0), (49, 50, 1), (50, 63, 1000), (49, 50, 14)] g g65 := E2 ▸ rg65
        refine ⟨_, ?_, rfl, hc.rope F (by decide) (q.1.trans hev), ?_, q.2.trans ht2, (F.s (by decide)).trans ht2⟩
        · omega
        · rw [F.s (a := 63) (k := 0) (by decide), q.1]
    · skip
      intro x69 ex69
      refine ⟨fun g' => g' 49 0 = g56 63 0 ∧ g' 49 14 = g56 63 14, ?_, ?_⟩
      · skip
        exact v_1542
      · skip
        intro g76 rg76 qg76
        intro x78 ex78
        have E1 : g47 = g := zFr_nl rg47
        have E2 : g56 = g := (zFr_nl rg56).trans E1
        have q : g76 49 0 = g56 63 0 ∧ g76 49 14 = g56 63 14 := qg76
        rw [E2] at q
        have F : zFr [(49, 50, 0), (49, 50, 1), (50, 63, 1000), (49, 50, 14)] g g76 := E2 ▸ rg76
        refine ⟨_, ?_, rfl, hc.rope F (by decide) (q.1.trans hev), ?_, q.2.trans ht2, (F.s (by decide)).trans ht2⟩
        · omega
        · rw [F.s (a := 63) (k := 0) (by decide), q.1]
