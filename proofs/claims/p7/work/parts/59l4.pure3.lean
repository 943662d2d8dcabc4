/-! pure proofs (wip/safe/vcp.py) -/
set_option maxHeartbeats 4000000 in
theorem v_2325 {s0 : zF} (hs : SG s0) (hk : s0 386 8 = 0) (h3 : 1 ≤ s0 386 3) : b_2325 s0 (fun g => MP s0 g) := by
  have hz := hs.sz
  unfold b_2325
  intro x1 ex1 fx1 gx1
  refine ⟨fun h5 => ?_, fun h5 => ?_⟩
  · skip
    exfalso
    omega
  · skip
    refine ⟨fun g' => AP s0 g', ?_, ?_⟩
    · skip
      exact v_2310 (SG.ap hs)
    · skip
      intro g11 rg11 qg11
      intro x13 ex13 fx13 gx13
      refine ⟨fun h17 => ?_, fun h17 => ?_⟩
      · skip
        have mg11 : MP s0 g11 := AP.mp hs h3 qg11
        exact mg11
      · skip
        refine ⟨fun v g' => MP g11 g' ∧ NBd (g' 386 8) 0 v 99, ?_, ?_⟩
        · skip
          have mg11 : MP s0 g11 := AP.mp hs h3 qg11
          exact v_2322 mg11.1
        · skip
          intro x23 g26 rg26 qg26
          refine ⟨fun g' => MP g26 g', ?_, ?_⟩
          · skip
            have mg11 : MP s0 g11 := AP.mp hs h3 qg11
            have ng26 : MP g11 g26 ∧ _ := qg26
            have mg26 : MP s0 g26 := mg11.trans ng26.1.wp
            exact v_2321 mg26.1
          · skip
            intro g33 rg33 qg33
            refine ⟨fun v g' => MP g33 g' ∧ NBd (g' 386 8) 0 v 10, ?_, ?_⟩
            · skip
              have mg11 : MP s0 g11 := AP.mp hs h3 qg11
              have ng26 : MP g11 g26 ∧ _ := qg26
              have mg26 : MP s0 g26 := mg11.trans ng26.1.wp
              have ng33 : MP g26 g33 := qg33
              have mg33 : MP s0 g33 := mg26.trans ng33.wp
              exact v_2322 mg33.1
            · skip
              intro x40 g43 rg43 qg43
              intro x45 ex45 fx45 gx45
              refine ⟨fun h49 => ?_, fun h49 => ?_⟩
              · skip
                have mg11 : MP s0 g11 := AP.mp hs h3 qg11
                have ng26 : MP g11 g26 ∧ _ := qg26
                have mg26 : MP s0 g26 := mg11.trans ng26.1.wp
                have ng33 : MP g26 g33 := qg33
                have mg33 : MP s0 g33 := mg26.trans ng33.wp
                have ng43 : MP g33 g43 ∧ _ := qg43
                have mg43 : MP s0 g43 := mg33.trans ng43.1.wp
                exact mg43
              · skip
                intro x50 ex50 fx50 gx50
                intro x54 ex54
                have oh56 : (-2147483648 ≤ x54 + x40 ∧ x54 + x40 ≤ 2147483647) := by
                  have mg11 : MP s0 g11 := AP.mp hs h3 qg11
                  have ng26 : MP g11 g26 ∧ _ := qg26
                  have mg26 : MP s0 g26 := mg11.trans ng26.1.wp
                  have ng33 : MP g26 g33 := qg33
                  have mg33 : MP s0 g33 := mg26.trans ng33.wp
                  have ng43 : MP g33 g43 ∧ _ := qg43
                  have mg43 : MP s0 g43 := mg33.trans ng43.1.wp
                  have nb := ng43.2 (by omega)
                  omega
                refine ⟨oh56, ?_⟩
                intro x57 ex57
                have oh59 : (0 ≤ x57 ∧ x57 ≤ 21) := by
                  have mg11 : MP s0 g11 := AP.mp hs h3 qg11
                  have ng26 : MP g11 g26 ∧ _ := qg26
                  have mg26 : MP s0 g26 := mg11.trans ng26.1.wp
                  have ng33 : MP g26 g33 := qg33
                  have mg33 : MP s0 g33 := mg26.trans ng33.wp
                  have ng43 : MP g33 g43 ∧ _ := qg43
                  have mg43 : MP s0 g43 := mg33.trans ng43.1.wp
                  have nb := ng43.2 (by omega)
                  omega
                refine ⟨oh59, ?_⟩
                intro g64 eg64
                have mg11 : MP s0 g11 := AP.mp hs h3 qg11
                have ng26 : MP g11 g26 ∧ _ := qg26
                have mg26 : MP s0 g26 := mg11.trans ng26.1.wp
                have ng33 : MP g26 g33 := qg33
                have mg33 : MP s0 g33 := mg26.trans ng33.wp
                have ng43 : MP g33 g43 ∧ _ := qg43
                have mg43 : MP s0 g43 := mg33.trans ng43.1.wp
                have mg64 : MP s0 g64 := by
                  rw [eg64]
                  exact mg43.z (by decide) (by decide)
                exact mg64
