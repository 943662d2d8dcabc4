/-! pure proofs (wip/safe/vcp.py) -/
set_option maxHeartbeats 4000000 in
theorem v_2324 {a0 : Int} {s0 : zF} (hs : SG s0) (ha : 0 ≤ a0 ∧ a0 ≤ 23) : b_2324 s0 a0 (fun g => WP s0 g) := by
  have hz := hs.sz
  refine ⟨fun n g v7_1 => n = (if g 386 8 = 0 then 2 * zMs g + 2 else 0).toNat ∧ WP s0 g ∧ v7_1 = a0, fun n g v67_1 v67_2 => n = (2 * zMs g + 1).toNat ∧ WP s0 g ∧ g 386 8 = 0 ∧ v67_1 = a0, ?_, ?_, ?_⟩
  · skip
    have oh126 : (0 ≤ a0 ∧ a0 ≤ 23) := by
      omega
    refine ⟨oh126, ?_⟩
    intro g131 eg131
    refine ⟨_, rfl, ?_, rfl⟩
    rw [eg131]
    exact (WP.refl hs).z (by decide) (by decide)
  · intro n g v7_1 rg qv7_10 qv7_11 hI
    obtain ⟨hn, m1, hv⟩ := hI
    have hz := m1.1.sz
    have hms := m1.1.ms
    intro x1 ex1 fx1 gx1
    refine ⟨fun h5 => ?_, fun h5 => ?_⟩
    · skip
      exact m1
    · skip
      intro x6 ex6 fx6 gx6
      refine ⟨fun h10 => ?_, fun h10 => ?_⟩
      · skip
        exact m1
      · skip
        intro y14 ey14
        intro x15 ex15
        refine ⟨fun h17 => ?_, fun h17 => ?_⟩
        · skip
          intro x18 ex18
          refine ⟨fun h20 => ?_, fun h20 => ?_⟩
          · skip
            refine ⟨_, ?_, rfl, m1, by omega, hv⟩
            rw [hn, if_pos (by omega)]
            omega
          · skip
            intro x24 ex24 fx24 gx24
            intro x26 ex26 fx26 gx26
            refine ⟨fun h29 => ?_, fun h29 => ?_⟩
            · skip
              refine ⟨_, ?_, rfl, m1, by omega, hv⟩
              rw [hn, if_pos (by omega)]
              omega
            · skip
              intro x34 ex34 fx34 gx34
              intro g41 eg41
              refine ⟨fun g' => AP g41 g', ?_, ?_⟩
              · skip
                rw [eg41]
                exact v_2310 (SG.ap ((zKSz (by decide) (by decide)).sg m1.1))
              · skip
                intro g48 rg48 qg48
                have w1 : WP g g41 := by
                  rw [eg41]
                  exact (WP.refl m1.1).z (by decide) (by decide)
                have a2 : AP g41 g48 := qg48
                have h3 : g41 386 3 = g 386 3 := by
                  rw [eg41]
                  rfl
                have eM : zMs g41 = zMs g := by
                  rw [eg41]
                  rfl
                have m2 : MP g41 g48 := AP.mp w1.1 (by omega) a2
                have m3 := m2.2.2
                have hm2 := m2.1.ms
                have hz2 := m2.1.sz
                refine ⟨_, ?_, rfl, m1.trans (w1.trans m2.wp), hv⟩
                rw [hn, if_pos (by omega : g 386 8 = 0)]
                split <;> omega
        · skip
          intro x53 ex53 fx53 gx53
          intro x55 ex55 fx55 gx55
          refine ⟨fun h58 => ?_, fun h58 => ?_⟩
          · skip
            refine ⟨_, ?_, rfl, m1, by omega, hv⟩
            rw [hn, if_pos (by omega)]
            omega
          · skip
            intro x63 ex63 fx63 gx63
            intro g70 eg70
            refine ⟨fun g' => AP g70 g', ?_, ?_⟩
            · skip
              rw [eg70]
              exact v_2310 (SG.ap ((zKSz (by decide) (by decide)).sg m1.1))
            · skip
              intro g77 rg77 qg77
              have w1 : WP g g70 := by
                rw [eg70]
                exact (WP.refl m1.1).z (by decide) (by decide)
              have a2 : AP g70 g77 := qg77
              have h3 : g70 386 3 = g 386 3 := by
                rw [eg70]
                rfl
              have eM : zMs g70 = zMs g := by
                rw [eg70]
                rfl
              have m2 : MP g70 g77 := AP.mp w1.1 (by omega) a2
              have m3 := m2.2.2
              have hm2 := m2.1.ms
              have hz2 := m2.1.sz
              refine ⟨_, ?_, rfl, m1.trans (w1.trans m2.wp), hv⟩
              rw [hn, if_pos (by omega : g 386 8 = 0)]
              split <;> omega
  · intro n g v67_1 v67_2 rg qv67_10 qv67_11 qv67_20 qv67_21 hI
    obtain ⟨hn, m1, hk, hv⟩ := hI
    have hz := m1.1.sz
    have hms := m1.1.ms
    intro x79 ex79 fx79 gx79
    intro x83 ex83 fx83 gx83
    refine ⟨fun h87 => ?_, fun h87 => ?_⟩
    · skip
      intro x91 ex91 fx91 gx91
      intro x93 ex93 fx93 gx93
      intro g100 eg100
      exfalso
      omega
    · skip
      intro g106 eg106
      intro g111 eg111
      intro x115 ex115 fx115 gx115
      intro x117 ex117 fx117 gx117
      intro g124 eg124
      have e2 : g111 = blF g 1 x79 := by
        rw [eg111, eg106]
        rfl
      have w2 : MP g g111 := by
        rw [e2]
        exact MP.bl m1.1 hk (by decide) (by decide)
      have h8 : g124 386 8 = 1 := by
        rw [eg124, e2]
        rfl
      refine ⟨_, ?_, rfl, ?_, hv⟩
      · rw [hn, if_neg (by omega)]
        omega
      · rw [eg124]
        exact (m1.trans w2.wp).z (by decide) (by decide)
