/-! pure proofs (wip/safe/vcp.py) -/
set_option maxHeartbeats 4000000 in
theorem v_2347 {s0 : zF} {a0 a1 : Int} (h0 : 0 ≤ a0 ∧ a0 ≤ 21) (hA1 : 0 ≤ a1 ∧ a1 ≤ 21) (hne : a0 ≠ a1) : b_2347 s0 a0 a1 (fun g => CPY s0 a0 a1 g) := by
  refine ⟨fun n g v14_1 v14_2 v14_3 => n = (5000 - v14_3).toNat ∧ v14_1 = a0 ∧ v14_2 = a1 ∧ CPYk s0 a0 a1 v14_3 g, fun n g v184_1 v184_2 v184_3 => n = (4000 - v184_3).toNat ∧ CPY s0 a0 a1 g, fun n g v254_1 v254_2 v254_3 => n = (2000 - v254_3).toNat ∧ CPY s0 a0 a1 g, ?_, ?_, ?_, ?_⟩
  · skip
    intro x177 ex177
    intro g182 eg182
    have a419 : g182 419 = s0 419 := by
      rw [eg182, zup_na (by decide)]
    refine ⟨_, rfl, rfl, rfl, fun k hk => by omega, fun j _ => ?_⟩
    rw [a419]
  · intro n g v14_1 v14_2 v14_3 rg qv14_10 qv14_11 qv14_20 qv14_21 qv14_30 qv14_31 hI
    obtain ⟨hn, hv, hv2, hc⟩ := hI
    refine ⟨fun h1 => ?_, fun h1 => ?_⟩
    · skip
      intro x2 ex2
      intro x4 ex4
      intro x6 ex6
      intro x8 ex8
      intro x13 ex13 fx13 gx13
      intro g18 eg18
      intro x22 ex22 fx22 gx22
      intro g27 eg27
      intro x31 ex31 fx31 gx31
      intro g36 eg36
      intro x40 ex40
      intro g45 eg45
      intro x49 ex49 fx49 gx49
      intro g54 eg54
      intro x58 ex58
      intro g63 eg63
      intro x67 ex67 fx67 gx67
      intro g72 eg72
      intro x76 ex76
      intro g81 eg81
      intro x85 ex85 fx85
      intro g90 eg90
      intro x94 ex94
      intro g99 eg99
      intro x100 ex100
      have a419 : g99 419 = zup1 (g 419) x4.toNat x13 := by
        rw [eg99, zup_na (by decide), eg90, zup_na (by decide), eg81, zup_na (by decide), eg72, zup_na (by decide), eg63, zup_na (by decide), eg54, zup_na (by decide), eg45, zup_na (by decide), eg36, zup_na (by decide), eg27, zup_na (by decide), eg18, zup_app, if_pos rfl]
      have hx : x13 = g 419 (12 * a1 + v14_3).toNat := by
        rw [show 12 * a1 + v14_3 = x8 by omega]
        exact ex13
      have st := hc.step (x := x13) (i := x4) (by omega) h0.1 hA1.1 hne (by omega) hx a419
      refine ⟨_, ?_, rfl, hv, hv2, ?_⟩
      · omega
      · rw [show x100 = v14_3 + 1 by omega]
        exact st
    · skip
      exact ⟨_, by omega, rfl, hc.all (by omega)⟩
  · intro n g v184_1 v184_2 v184_3 rg qv184_10 qv184_11 qv184_20 qv184_21 qv184_30 qv184_31 hI
    obtain ⟨hn, hc⟩ := hI
    refine ⟨fun h102 => ?_, fun h102 => ?_⟩
    · skip
      intro x103 ex103
      intro x105 ex105
      intro x107 ex107
      intro x109 ex109
      intro x114 ex114 fx114 gx114
      intro g119 eg119
      intro x120 ex120
      intro x122 ex122
      intro x124 ex124
      intro x126 ex126
      intro x131 ex131
      intro g136 eg136
      intro x137 ex137
      have a419 : g136 419 = g 419 := by
        rw [eg136, zup_na (by decide), eg119, zup_na (by decide)]
      exact ⟨_, by omega, rfl, hc.of a419⟩
    · skip
      intro x142 ex142 fx142 gx142
      intro g147 eg147
      have a419 : g147 419 = g 419 := by
        rw [eg147, zup_na (by decide)]
      exact ⟨_, by omega, rfl, hc.of a419⟩
  · intro n g v254_1 v254_2 v254_3 rg qv254_10 qv254_11 qv254_20 qv254_21 qv254_30 qv254_31 hI
    obtain ⟨hn, hc⟩ := hI
    intro x151 ex151 fx151 gx151
    intro x152 ex152
    refine ⟨fun h154 => ?_, fun h154 => ?_⟩
    · skip
      intro x155 ex155
      intro x157 ex157
      intro x159 ex159
      intro x161 ex161
      intro x166 ex166
      intro g171 eg171
      intro x172 ex172
      have a419 : g171 419 = g 419 := by
        rw [eg171, zup_na (by decide)]
      exact ⟨_, by omega, rfl, hc.of a419⟩
    · skip
      exact hc
