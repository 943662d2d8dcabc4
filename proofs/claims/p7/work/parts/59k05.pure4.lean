/-! pure proofs (wip/safe/vcp.py) -/
set_option maxHeartbeats 4000000 in
theorem v_2370 {s0 : zF} {a0 a1 a2 : Int} (h : zIa s0) : b_2370 s0 a0 a1 a2 (fun _ _ => True) := by
  refine ⟨fun n g v9_1 v9_2 v9_3 v9_4 => n = (20 - v9_4).toNat ∧ 8 * s0 386 12 ≤ v9_4, ?_, ?_⟩
  · skip
    intro x68 ex68 fx68 gx68
    intro x72 ex72
    exact ⟨_, rfl, by omega⟩
  · intro n g v9_1 v9_2 v9_3 v9_4 rg qv9_10 qv9_11 qv9_20 qv9_40 qv9_41 hI
    obtain ⟨hn, hv⟩ := hI
    have e12 : g 386 12 = s0 386 12 := rg.s (by decide)
    obtain ⟨b, hb, hb1, hw⟩ := zIa_fr h rg rfl
    intro x1 ex1 fx1 gx1
    intro x5 ex5
    intro x10 ex10 fx10 gx10
    intro x11 ex11
    refine ⟨fun h13 => ?_, fun h13 => ?_⟩
    · skip
      intro x17 ex17 fx17 gx17
      refine ⟨fun h18 => ?_, fun h18 => ?_⟩
      · skip
        intro x19 ex19
        exact ⟨_, by omega, rfl, by omega⟩
      · skip
        intro x24 ex24 fx24 gx24
        intro x28 ex28 fx28 gx28
        refine ⟨fun _ _ => True, ?_, ?_⟩
        · skip
          have eb : x1.toNat = b := by omega
          have hk : ((v9_4 - 8 * b).toNat : Int) < g 402 b := by
            rw [← eb, ← ex10]
            omega
          have w := hw.2.2.1 _ hk
          unfold LWk at w
          rw [show 8 * b + (v9_4 - 8 * b).toNat = v9_4.toNat by omega] at w
          obtain ⟨w1, w2, w3, w4, w5, w6⟩ := w
          refine v_2371 (by omega) (by omega) ?_
          rw [show (1600 * g 386 12 + x24).toNat = 1600 * b + (g 405 v9_4.toNat).toNat by omega, show (x28 - x24).toNat = (g 406 v9_4.toNat - g 405 v9_4.toNat).toNat by omega]
          exact w6
        · skip
          intro y34 g35 rg35 qg35
          intro x37 ex37
          refine ⟨fun h39 => ?_, fun h39 => ?_⟩
          · skip
            intro x43 ex43 fx43 gx43
            refine ⟨fun _ _ => True, ?_, ?_⟩
            · skip
              have eb : x1.toNat = b := by omega
              have hk : ((v9_4 - 8 * b).toNat : Int) < g 402 b := by
                rw [← eb, ← ex10]
                omega
              have w := hw.2.2.1 _ hk
              unfold LWk at w
              rw [show 8 * b + (v9_4 - 8 * b).toNat = v9_4.toNat by omega] at w
              obtain ⟨w1, w2, w3, w4, w5, w6⟩ := w
              have f407 : g35 407 = g 407 := rg35.a (by decide)
              have f404 : g35 404 v9_4.toNat = g 404 v9_4.toNat := congrFun (rg35.a (a := 404) (by decide)) _
              have f12 : g35 386 12 = g 386 12 := rg35.s (by decide)
              refine v_2371 (by omega) (by omega) ?_
              rw [f407, show (1600 * g35 386 12 + x43).toNat = 1600 * b + (g 404 v9_4.toNat).toNat by omega, show (x24 - x43).toNat = (g 405 v9_4.toNat - g 404 v9_4.toNat).toNat by omega]
              exact w5
            · skip
              intro y53 g54 rg54 qg54
              intro x56 ex56
              refine ⟨fun h58 => ?_, fun h58 => ?_⟩
              · skip
                trivial
              · skip
                intro y59 ey59
                intro x61 ex61
                refine ⟨fun h63 => ?_, fun h63 => ?_⟩
                · skip
                  trivial
                · skip
                  intro x64 ex64
                  trivial
          · skip
            intro x66 ex66
            exact ⟨_, by omega, rfl, by omega⟩
    · skip
      trivial
