/-! pure proofs (wip/safe/vcp.py) -/
set_option maxHeartbeats 4000000 in
theorem v_2402 {s0 : zF} {a0 : Int} (h : zIa s0) : b_2402 s0 a0 (fun _ _ => True) := by
  refine ⟨fun n g v35_1 v35_2 => n = (70000000 - v35_2).toNat ∧ 0 ≤ v35_2 ∧ (∀ p : Nat, (p : Int) < v35_2 → g 434 p = p) ∧ g 386 70 ≤ 6, fun n g v63_1 v63_2 v63_3 v63_4 => n = (if v63_4 = 1 then 20 * (3000000 - vl (g 434) (g 386 70).toNat) + 15 else 0).toNat ∧ Dst (g 434) (g 386 70) ∧ Rg (g 434) (g 386 70) ∧ g 386 70 ≤ 6, fun n g v90_1 v90_2 v90_6 => n = (20 * (3000000 - vl (g 434) (g 386 70).toNat) + 14 - v90_6).toNat ∧ Dst (g 434) (g 386 70) ∧ Rg (g 434) (g 386 70) ∧ g 386 70 ≤ 6, ?_, ?_, ?_, ?_⟩
  · skip
    intro x66 ex66 fx66 gx66
    intro x73 ex73 fx73 gx73
    refine ⟨fun h74 => ?_, fun h74 => ?_⟩
    · skip
      trivial
    · skip
      refine ⟨fun h75 => ?_, fun h75 => ?_⟩
      · skip
        trivial
      · skip
        refine ⟨fun h76 => ?_, fun h76 => ?_⟩
        · skip
          refine ⟨fun h77 => ?_, fun h77 => ?_⟩
          · skip
            trivial
          · skip
            refine ⟨fun h81 => ?_, fun h81 => ?_⟩
            · skip
              refine ⟨fun g' => RN s0 0 g', ?_, ?_⟩
              · skip
                exact v_2363 (by decide)
              · skip
                intro g87 rg87 qg87
                have rn : RN s0 0 g87 := qg87
                have e := rn.1
                rw [← ex66, ← ex73] at e
                exact ⟨_, rfl, by decide, fun p hp => by omega, by omega⟩
            · skip
              trivial
        · skip
          refine ⟨fun g' => RN s0 0 g', ?_, ?_⟩
          · skip
            exact v_2363 (by decide)
          · skip
            intro g94 rg94 qg94
            have rn : RN s0 0 g94 := qg94
            have e := rn.1
            rw [← ex66, ← ex73] at e
            exact ⟨_, rfl, by decide, fun p hp => by omega, by omega⟩
  · intro n g v35_1 v35_2 rg qv35_10 qv35_11 qv35_20 qv35_21 hI
    obtain ⟨hn, hv, hp, hN⟩ := hI
    intro x1 ex1 fx1 gx1
    refine ⟨fun h5 => ?_, fun h5 => ?_⟩
    · skip
      intro g10 eg10
      intro x11 ex11
      have a434 : g10 434 = zup1 (g 434) v35_2.toNat v35_2 := by
        rw [eg10, zup_app, if_pos rfl]
      have e70 : g10 386 70 = g 386 70 := by
        rw [eg10, zup_ne (Or.inl (by decide))]
      refine ⟨_, ?_, rfl, by omega, fun p hq => ?_, by omega⟩
      · omega
      · rw [a434, zup1_app]
        split
        · omega
        · exact hp p (by omega)
    · skip
      have hd : Dst (g 434) (g 386 70) := fun p q h1 h2 => by
        rw [hp p (by omega), hp q (by omega)]
        omega
      have hr : Rg (g 434) (g 386 70) := fun p hq => by
        rw [hp p (by omega)]
        omega
      have hb := vl_6 (f := g 434) (n := (g 386 70).toNat) (by omega) (fun p hp => hr p (by omega))
      have hb0 := vl_b (f := g 434) (n := (g 386 70).toNat) (fun p hp => hr p (by omega))
      refine ⟨_, ?_, rfl, hd, hr, hN⟩
      rw [if_pos rfl]
      omega
  · intro n g v63_1 v63_2 v63_3 v63_4 rg qv63_10 qv63_11 qv63_30 qv63_31 qv63_40 qv63_41 hI
    obtain ⟨hn, hd, hr, hN⟩ := hI
    have hb := vl_6 (f := g 434) (n := (g 386 70).toNat) (by omega) (fun p hp => hr p (by omega))
    have hb0 := vl_b (f := g 434) (n := (g 386 70).toNat) (fun p hp => hr p (by omega))
    refine ⟨fun h13 => ?_, fun h13 => ?_⟩
    · skip
      have oh16 : zIa g := by
        exact zIa_fr h rg rfl
      refine ⟨oh16, ?_⟩
      intro x18 g21 rg21 
      refine ⟨fun h23 => ?_, fun h23 => ?_⟩
      · skip
        refine ⟨fun h24 => ?_, fun h24 => ?_⟩
        · skip
          have d70 : g21 386 70 = g 386 70 := rg21.s (by decide)
          have d434 : g21 434 = g 434 := rg21.a (by decide)
          refine ⟨_, ?_, rfl, by rw [d70, d434]; exact hd, by rw [d70, d434]; exact hr, by omega⟩
          rw [d70, d434, hn, if_pos (by omega)]
          omega
        · skip
          refine ⟨fun v g' => Dst (g' 434) (g21 386 70) ∧ Rg (g' 434) (g21 386 70) ∧ (v = 1 → vl (g21 434) (g21 386 70).toNat < vl (g' 434) (g21 386 70).toNat), ?_, ?_⟩
          · skip
            have d70 : g21 386 70 = g 386 70 := rg21.s (by decide)
            have d434 : g21 434 = g 434 := rg21.a (by decide)
            exact v_2403 (by rw [d70, d434]; exact hd) (by rw [d70, d434]; exact hr) (by omega)
          · skip
            intro x30 hx301 hx302 g33 rg33 qg33
            have c : Dst (g33 434) (g21 386 70) ∧ Rg (g33 434) (g21 386 70) ∧ _ := qg33
            obtain ⟨c1, c2, c3⟩ := c
            have e70 : g33 386 70 = g21 386 70 := rg33.s (by decide)
            have d70 : g21 386 70 = g 386 70 := rg21.s (by decide)
            have d434 : g21 434 = g 434 := rg21.a (by decide)
            rw [d70] at c1 c2 c3 e70
            rw [d434] at c3
            refine ⟨_, ?_, rfl, by rw [e70]; exact c1, by rw [e70]; exact c2, by omega⟩
            rw [e70, hn, if_pos (by omega : v63_4 = 1)]
            split
            · have := c3 (by omega)
              omega
            · omega
      · skip
        have d70 : g21 386 70 = g 386 70 := rg21.s (by decide)
        have d434 : g21 434 = g 434 := rg21.a (by decide)
        refine ⟨_, ?_, rfl, by rw [d70, d434]; exact hd, by rw [d70, d434]; exact hr, by omega⟩
        rw [d70, d434, hn, if_pos (by omega)]
        omega
    · skip
      refine ⟨fun h35 => ?_, fun h35 => ?_⟩
      · skip
        intro x39 ex39 fx39 gx39
        trivial
      · skip
        trivial
  · intro n g v90_1 v90_2 v90_6 rg qv90_10 qv90_11 qv90_60 qv90_61 hI
    obtain ⟨hn, hd, hr, hN⟩ := hI
    have hb := vl_6 (f := g 434) (n := (g 386 70).toNat) (by omega) (fun p hp => hr p (by omega))
    have hb0 := vl_b (f := g 434) (n := (g 386 70).toNat) (fun p hp => hr p (by omega))
    intro x40 ex40 fx40 gx40
    refine ⟨fun h44 => ?_, fun h44 => ?_⟩
    · skip
      intro x48 ex48 fx48 gx48
      intro g53 eg53
      intro x54 ex54
      have d70 : g53 386 70 = g 386 70 := by
        rw [eg53, zup_ne (Or.inl (by decide))]
      have d434 : g53 434 = g 434 := by
        rw [eg53, zup_na (by decide)]
      refine ⟨_, ?_, rfl, by rw [d70, d434]; exact hd, by rw [d70, d434]; exact hr, by omega⟩
      rw [d70, d434, hn]
      omega
    · skip
      refine ⟨fun v g' => Dst (g' 434) (g 386 70) ∧ Rg (g' 434) (g 386 70) ∧ (v = 1 → vl (g 434) (g 386 70).toNat < vl (g' 434) (g 386 70).toNat), ?_, ?_⟩
      · skip
        exact v_2403 hd hr (by omega)
      · skip
        intro x61 hx611 hx612 g64 rg64 qg64
        have c : Dst (g64 434) (g 386 70) ∧ Rg (g64 434) (g 386 70) ∧ _ := qg64
        obtain ⟨c1, c2, c3⟩ := c
        have e70 : g64 386 70 = g 386 70 := rg64.s (by decide)
        refine ⟨_, ?_, rfl, by rw [e70]; exact c1, by rw [e70]; exact c2, by omega⟩
        rw [e70, hn]
        split
        · have := c3 (by omega)
          omega
        · omega
