/-! pure proofs (wip/safe/vcp.py) -/
set_option maxHeartbeats 4000000 in
theorem v_2371 {s0 : zF} {a0 a1 : Int} (h0 : 0 ≤ a0 ∧ a0 ≤ a1 ∧ a1 ≤ 1600) (hb : s0 386 12 = 0 ∨ s0 386 12 = 1) (hz : zH (s0 407) (1600 * s0 386 12 + a0).toNat (a1 - a0).toNat ≠ none) : b_2371 s0 a0 a1 (fun _ _ => True) := by
  refine ⟨fun n g v14_2 v14_3 v14_4 => n = (1600 * s0 386 12 + a1 - v14_4).toNat ∧ v14_2 = a1 ∧ 1600 * s0 386 12 + a0 ≤ v14_4 ∧ v14_4 ≤ 1600 * s0 386 12 + a1 ∧ zH (s0 407) (1600 * s0 386 12 + a0).toNat (v14_4 - (1600 * s0 386 12 + a0)).toNat = some v14_3, ?_, ?_⟩
  · skip
    intro x112 ex112 fx112 gx112
    intro x116 ex116
    intro x118 ex118
    refine ⟨_, rfl, rfl, by omega, by omega, ?_⟩
    rw [show (x118 - (1600 * s0 386 12 + a0)).toNat = 0 by omega]
    rfl
  · intro n g v14_2 v14_3 v14_4 rg qv14_20 qv14_21 qv14_30 qv14_31 qv14_40 qv14_41 hI
    obtain ⟨hn, hv, h1i, h2i, h3i⟩ := hI
    have e12 : g 386 12 = s0 386 12 := rg.s (by decide)
    have e407 : g 407 v14_4.toNat = s0 407 v14_4.toNat := congrFun (rg.a (a := 407) (by decide)) _
    have hzb := zH_b h3i
    intro x1 ex1 fx1 gx1
    intro x5 ex5
    intro x7 ex7
    refine ⟨fun h9 => ?_, fun h9 => ?_⟩
    · skip
      intro x13 ex13 fx13 gx13
      refine ⟨fun h14 => ?_, fun h14 => ?_⟩
      · skip
        refine ⟨fun h15 => ?_, fun h15 => ?_⟩
        · skip
          intro x16 ex16
          intro x18 ex18
          intro x20 ex20
          have oh22 : (0 ≤ x20 ∧ x20 ≤ 1649) := by
            have st := R_step h3i (zH_le (by omega) hz)
            rw [show (1600 * s0 386 12 + a0).toNat + (v14_4 - (1600 * s0 386 12 + a0)).toNat = v14_4.toNat by omega] at st
            omega
          refine ⟨oh22, ?_⟩
          intro y26 ey26
          have oh27 : (0 ≤ x16 ∧ x16 ≤ 1649) := by
            have st := R_step h3i (zH_le (by omega) hz)
            rw [show (1600 * s0 386 12 + a0).toNat + (v14_4 - (1600 * s0 386 12 + a0)).toNat = v14_4.toNat by omega] at st
            omega
          refine ⟨oh27, ?_⟩
          intro y31 ey31
          intro y35 g36 rg36 
          have oh38 : (0 ≤ x18 ∧ x18 ≤ 1649) := by
            have st := R_step h3i (zH_le (by omega) hz)
            rw [show (1600 * s0 386 12 + a0).toNat + (v14_4 - (1600 * s0 386 12 + a0)).toNat = v14_4.toNat by omega] at st
            omega
          refine ⟨oh38, ?_⟩
          intro g43 eg43
          intro x44 ex44
          have st := R_step h3i (zH_le (by omega) hz)
          rw [show (1600 * s0 386 12 + a0).toNat + (v14_4 - (1600 * s0 386 12 + a0)).toNat = v14_4.toNat by omega] at st
          refine ⟨_, ?_, rfl, hv, by omega, by omega, ?_⟩
          · omega
          · rw [show (x44 - (1600 * s0 386 12 + a0)).toNat = (v14_4 - (1600 * s0 386 12 + a0)).toNat + 1 by omega]
            rcases st with ⟨s1, s2⟩ | ⟨s1, s2, s3, s4⟩ | ⟨s1, s2, s3, s4⟩
            · first
              | (exfalso; omega)
              | (rw [s2]; congr 1; omega)
            · first
              | (exfalso; omega)
              | (rw [s4])
            · first
              | (exfalso; omega)
              | (rw [s4]; congr 1; omega)
        · skip
          intro x46 ex46
          intro x48 ex48
          have oh50 : (0 ≤ x48 ∧ x48 ≤ 1649) := by
            have st := R_step h3i (zH_le (by omega) hz)
            rw [show (1600 * s0 386 12 + a0).toNat + (v14_4 - (1600 * s0 386 12 + a0)).toNat = v14_4.toNat by omega] at st
            omega
          refine ⟨oh50, ?_⟩
          intro y54 ey54
          intro y55 
          have oh56 : (0 ≤ x46 ∧ x46 ≤ 1649) := by
            have st := R_step h3i (zH_le (by omega) hz)
            rw [show (1600 * s0 386 12 + a0).toNat + (v14_4 - (1600 * s0 386 12 + a0)).toNat = v14_4.toNat by omega] at st
            omega
          refine ⟨oh56, ?_⟩
          intro g61 eg61
          intro x62 ex62
          have st := R_step h3i (zH_le (by omega) hz)
          rw [show (1600 * s0 386 12 + a0).toNat + (v14_4 - (1600 * s0 386 12 + a0)).toNat = v14_4.toNat by omega] at st
          refine ⟨_, ?_, rfl, hv, by omega, by omega, ?_⟩
          · omega
          · rw [show (x62 - (1600 * s0 386 12 + a0)).toNat = (v14_4 - (1600 * s0 386 12 + a0)).toNat + 1 by omega]
            rcases st with ⟨s1, s2⟩ | ⟨s1, s2, s3, s4⟩ | ⟨s1, s2, s3, s4⟩
            · first
              | (exfalso; omega)
              | (rw [s2]; congr 1; omega)
            · first
              | (exfalso; omega)
              | (rw [s4])
            · first
              | (exfalso; omega)
              | (rw [s4]; congr 1; omega)
      · skip
        refine ⟨fun h64 => ?_, fun h64 => ?_⟩
        · skip
          refine ⟨fun h65 => ?_, fun h65 => ?_⟩
          · skip
            intro x69 ex69
            intro y70 ey70
            have oh72 : (v14_3 ≤ 1649) := by
              have st := R_step h3i (zH_le (by omega) hz)
              rw [show (1600 * s0 386 12 + a0).toNat + (v14_4 - (1600 * s0 386 12 + a0)).toNat = v14_4.toNat by omega] at st
              omega
            refine ⟨oh72, ?_⟩
            intro g77 eg77
            intro x78 ex78
            intro x80 ex80
            have st := R_step h3i (zH_le (by omega) hz)
            rw [show (1600 * s0 386 12 + a0).toNat + (v14_4 - (1600 * s0 386 12 + a0)).toNat = v14_4.toNat by omega] at st
            refine ⟨_, ?_, rfl, hv, by omega, by omega, ?_⟩
            · omega
            · rw [show (x80 - (1600 * s0 386 12 + a0)).toNat = (v14_4 - (1600 * s0 386 12 + a0)).toNat + 1 by omega]
              rcases st with ⟨s1, s2⟩ | ⟨s1, s2, s3, s4⟩ | ⟨s1, s2, s3, s4⟩
              · first
                | (exfalso; omega)
                | (rw [s2]; congr 1; omega)
              · first
                | (exfalso; omega)
                | (rw [s4])
              · first
                | (exfalso; omega)
                | (rw [s4]; congr 1; omega)
          · skip
            have oh82 : (v14_3 ≤ 1649) := by
              have st := R_step h3i (zH_le (by omega) hz)
              rw [show (1600 * s0 386 12 + a0).toNat + (v14_4 - (1600 * s0 386 12 + a0)).toNat = v14_4.toNat by omega] at st
              omega
            refine ⟨oh82, ?_⟩
            intro g87 eg87
            intro x88 ex88
            intro x90 ex90
            have st := R_step h3i (zH_le (by omega) hz)
            rw [show (1600 * s0 386 12 + a0).toNat + (v14_4 - (1600 * s0 386 12 + a0)).toNat = v14_4.toNat by omega] at st
            refine ⟨_, ?_, rfl, hv, by omega, by omega, ?_⟩
            · omega
            · rw [show (x90 - (1600 * s0 386 12 + a0)).toNat = (v14_4 - (1600 * s0 386 12 + a0)).toNat + 1 by omega]
              rcases st with ⟨s1, s2⟩ | ⟨s1, s2, s3, s4⟩ | ⟨s1, s2, s3, s4⟩
              · first
                | (exfalso; omega)
                | (rw [s2]; congr 1; omega)
              · first
                | (exfalso; omega)
                | (rw [s4])
              · first
                | (exfalso; omega)
                | (rw [s4]; congr 1; omega)
        · skip
          intro x95 ex95
          intro y96 ey96
          have oh98 : (v14_3 ≤ 1649) := by
            have st := R_step h3i (zH_le (by omega) hz)
            rw [show (1600 * s0 386 12 + a0).toNat + (v14_4 - (1600 * s0 386 12 + a0)).toNat = v14_4.toNat by omega] at st
            omega
          refine ⟨oh98, ?_⟩
          intro g103 eg103
          intro x104 ex104
          intro x106 ex106
          have st := R_step h3i (zH_le (by omega) hz)
          rw [show (1600 * s0 386 12 + a0).toNat + (v14_4 - (1600 * s0 386 12 + a0)).toNat = v14_4.toNat by omega] at st
          refine ⟨_, ?_, rfl, hv, by omega, by omega, ?_⟩
          · omega
          · rw [show (x106 - (1600 * s0 386 12 + a0)).toNat = (v14_4 - (1600 * s0 386 12 + a0)).toNat + 1 by omega]
            rcases st with ⟨s1, s2⟩ | ⟨s1, s2, s3, s4⟩ | ⟨s1, s2, s3, s4⟩
            · first
              | (exfalso; omega)
              | (rw [s2]; congr 1; omega)
            · first
              | (exfalso; omega)
              | (rw [s4])
            · first
              | (exfalso; omega)
              | (rw [s4]; congr 1; omega)
    · skip
      intro y111 ey111
      trivial
