/-! pure proofs (wip/safe/vcp.py) -/
set_option maxHeartbeats 4000000 in
theorem v_2324 {a0 : Int} {s0 : zF} (hs : SG s0) (ha : 0 ≤ a0 ∧ a0 ≤ 23) : b_2324 s0 a0 (fun g => WP s0 g) := by
  have hz := hs.sz
  refine ⟨fun n g v7_1 => n = (if g 386 8 = 0 then 2 * zMs g + 2 else 0).toNat ∧ WP s0 g ∧ v7_1 = a0, fun n g v67_1 v67_2 => n = (2 * zMs g + 1).toNat ∧ WP s0 g ∧ g 386 8 = 0 ∧ v67_1 = a0, ?_, ?_, ?_⟩
  · skip
    have oh120 : (0 ≤ a0 ∧ a0 ≤ 23) := by
      omega
    refine ⟨oh120, ?_⟩
    intro g125 eg125
    refine ⟨_, rfl, ?_, rfl⟩
    rw [eg125]
    exact (WP.refl hs).z (by decide) (by decide)
  · intro n g v7_1 rg qv7_10 qv7_11 hI
    obtain ⟨hn, m1, hv⟩ := hI
    have hz := m1.1.sz
    have hms := m1.1.ms
    intro x1 ex1 fx1 gx1
    refine ⟨fun h5 => ?_, fun h5 => ?_⟩
    · skip
      exact m1
    · skip
      intro x6 ex6 fx6 gx6
      refine ⟨fun h10 => ?_, fun h10 => ?_⟩
      · skip
        exact m1
      · skip
        intro y14 ey14
        intro x15 ex15
        refine ⟨fun h17 => ?_, fun h17 => ?_⟩
        · skip
          intro x18 ex18
          refine ⟨fun h20 => ?_, fun h20 => ?_⟩
          · skip
            refine ⟨_, ?_, rfl, m1, by omega, hv⟩
            rw [hn, if_pos (by omega)]
            omega
          · skip
            intro x24 ex24 fx24 gx24
            intro x25 ex25 fx25
            refine ⟨fun h28 => ?_, fun h28 => ?_⟩
            · skip
              refine ⟨_, ?_, rfl, m1, by omega, hv⟩
              rw [hn, if_pos (by omega)]
              omega
            · skip
              intro x32 ex32 fx32
              intro g39 eg39
              refine ⟨fun g' => AP g39 g', ?_, ?_⟩
              · skip
                rw [eg39]
                exact v_2310 (SG.ap ((zKSz (by decide) (by decide)).sg m1.1))
              · skip
                intro g46 rg46 qg46
                have w1 : WP g g39 := by
                  rw [eg39]
                  exact (WP.refl m1.1).z (by decide) (by decide)
                have a2 : AP g39 g46 := qg46
                have h3 : g39 386 3 = g 386 3 := by
                  rw [eg39]
                  rfl
                have eM : zMs g39 = zMs g := by
                  rw [eg39]
                  rfl
                have m2 : MP g39 g46 := AP.mp w1.1 (by omega) a2
                have m3 := m2.2.2
                have hm2 := m2.1.ms
                have hz2 := m2.1.sz
                refine ⟨_, ?_, rfl, m1.trans (w1.trans m2.wp), hv⟩
                rw [hn, if_pos (by omega : g 386 8 = 0)]
                split <;> omega
        · skip
          intro x51 ex51 fx51 gx51
          intro x52 ex52 fx52
          refine ⟨fun h55 => ?_, fun h55 => ?_⟩
          · skip
            refine ⟨_, ?_, rfl, m1, by omega, hv⟩
            rw [hn, if_pos (by omega)]
            omega
          · skip
            intro x59 ex59 fx59
            intro g66 eg66
            refine ⟨fun g' => AP g66 g', ?_, ?_⟩
            · skip
              rw [eg66]
              exact v_2310 (SG.ap ((zKSz (by decide) (by decide)).sg m1.1))
            · skip
              intro g73 rg73 qg73
              have w1 : WP g g66 := by
                rw [eg66]
                exact (WP.refl m1.1).z (by decide) (by decide)
              have a2 : AP g66 g73 := qg73
              have h3 : g66 386 3 = g 386 3 := by
                rw [eg66]
                rfl
              have eM : zMs g66 = zMs g := by
                rw [eg66]
                rfl
              have m2 : MP g66 g73 := AP.mp w1.1 (by omega) a2
              have m3 := m2.2.2
              have hm2 := m2.1.ms
              have hz2 := m2.1.sz
              refine ⟨_, ?_, rfl, m1.trans (w1.trans m2.wp), hv⟩
              rw [hn, if_pos (by omega : g 386 8 = 0)]
              split <;> omega
  · intro n g v67_1 v67_2 rg qv67_10 qv67_11 qv67_20 qv67_21 hI
    obtain ⟨hn, m1, hk, hv⟩ := hI
    have hz := m1.1.sz
    have hms := m1.1.ms
    intro x75 ex75 fx75 gx75
    intro x79 ex79 fx79 gx79
    refine ⟨fun h83 => ?_, fun h83 => ?_⟩
    · skip
      intro x87 ex87 fx87 gx87
      intro x88 ex88 fx88
      intro g95 eg95
      exfalso
      omega
    · skip
      intro g101 eg101
      intro g106 eg106
      intro x110 ex110 fx110 gx110
      intro x111 ex111 fx111
      intro g118 eg118
      have e2 : g106 = blF g 1 x75 := by
        rw [eg106, eg101]
        rfl
      have w2 : MP g g106 := by
        rw [e2]
        exact MP.bl m1.1 hk (by decide) (by decide)
      have h8 : g118 386 8 = 1 := by
        rw [eg118, e2]
        rfl
      refine ⟨_, ?_, rfl, ?_, hv⟩
      · rw [hn, if_neg (by omega)]
        omega
      · rw [eg118]
        exact (m1.trans w2.wp).z (by decide) (by decide)
