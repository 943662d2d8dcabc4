/-! the FAULT's numbers stay while all goes well (wip/safe/vcp.py) -/
set_option maxHeartbeats 4000000 in
theorem w_1301_c6 {s0 : zF} : p_1301_c6 s0 (fun v g => v = 1 → K01 s0 g) := by
  refine ⟨fun g v2_2 => K01 s0 g, fun g v28_2 => K01 s0 g, fun g v167_2 s167_0 => K01 s0 g, ?_, ?_, ?_, ?_⟩
  · skip
    have K0 : K01 s0 s0 := K01_refl
    exact K0
  · intro g v2_2 rg o1 o2 hI
    refine ⟨fun h3z => ?_, fun h3z => ?_⟩
    · skip
      have K0 : K01 s0 g := hI
      exact K0
    · skip
      intro x7 o4 o5 g10 rg10
      refine ⟨fun h7z => ?_, fun h7z => ?_⟩
      · skip
        have K0 : K01 s0 g := hI
        have K1 : K01 s0 g10 := K01_trans K0 (by first | exact K01_fr rg10 (by decide))
        exact K1
      · skip
        intro g18 rg18 x20 ex20
        have K0 : K01 s0 g := hI
        have K1 : K01 s0 g10 := K01_trans K0 (by first | exact K01_fr rg10 (by decide))
        have K2 : K01 s0 g18 := K01_trans K1 (by first | exact K01_fr rg18 (by decide))
        exact K2
  · intro g v28_2 rg o1 o2 hI
    intro x27 o3 o4 g30 rg30
    refine ⟨fun h6z => ?_, fun h6z => ?_⟩
    · skip
      intro g38 rg38
      refine ⟨fun v g' => v = 1 → K01 g38 g', ?_, ?_⟩
      · skip
        exact w_1300_c7
      · skip
        intro x45 o8 o9 g48 rg48 qg48
        refine ⟨fun h12z => ?_, fun h12z => ?_⟩
        · skip
          intro x56 o13 o14 g59 rg59
          refine ⟨fun h16z => ?_, fun h16z => ?_⟩
          · skip
            intro g67 rg67 x69 o18 o19 ex69
            refine ⟨fun h21z => ?_, fun h21z => ?_⟩
            · skip
              intro z
              have K0 : K01 s0 g := hI
              have K1 : K01 s0 g30 := K01_trans K0 (by first | exact K01_fr rg30 (by decide))
              have K2 : K01 s0 g38 := K01_trans K1 (by first | exact K01_fr rg38 (by decide))
              have K3 : K01 s0 g48 := K01_trans K2 (qg48 (by omega))
              have K4 : K01 s0 g59 := K01_trans K3 (by first | exact K01_fr rg59 (by decide))
              have K5 : K01 s0 g67 := K01_trans K4 (by first | exact K01_fr rg67 (by decide))
              exact K5
            · skip
              intro b74 eb74 eb74
              intro g83 rg83
              intro z
              have K0 : K01 s0 g := hI
              have K1 : K01 s0 g30 := K01_trans K0 (by first | exact K01_fr rg30 (by decide) | (rcases eb74 with z | z <;> (subst z; exact K01_fr rg30 (by decide))) | (rcases eb74 with z | z <;> (subst z; exact K01_fr rg30 (by decide))))
              have K2 : K01 s0 g38 := K01_trans K1 (by first | exact K01_fr rg38 (by decide) | (rcases eb74 with z | z <;> (subst z; exact K01_fr rg38 (by decide))) | (rcases eb74 with z | z <;> (subst z; exact K01_fr rg38 (by decide))))
              have K3 : K01 s0 g48 := K01_trans K2 (qg48 (by omega))
              have K4 : K01 s0 g59 := K01_trans K3 (by first | exact K01_fr rg59 (by decide) | (rcases eb74 with z | z <;> (subst z; exact K01_fr rg59 (by decide))) | (rcases eb74 with z | z <;> (subst z; exact K01_fr rg59 (by decide))))
              have K5 : K01 s0 g67 := K01_trans K4 (by first | exact K01_fr rg67 (by decide) | (rcases eb74 with z | z <;> (subst z; exact K01_fr rg67 (by decide))) | (rcases eb74 with z | z <;> (subst z; exact K01_fr rg67 (by decide))))
              have K6 : K01 s0 g83 := K01_trans K5 (by first | exact K01_fr rg83 (by decide) | (rcases eb74 with z | z <;> (subst z; exact K01_fr rg83 (by decide))) | (rcases eb74 with z | z <;> (subst z; exact K01_fr rg83 (by decide))))
              exact K6
          · skip
            intro x90 o17 o18 g93 rg93
            intro z
            exfalso
            omega
        · skip
          intro z
          exact absurd z (by decide)
    · skip
      intro x100 o7 o8 g103 rg103
      refine ⟨fun h10z => ?_, fun h10z => ?_⟩
      · skip
        refine ⟨fun v g' => v = 1 → K01 g103 g', ?_, ?_⟩
        · skip
          exact w_1297_c6
        · skip
          intro x111 o11 o12 g114 rg114 qg114
          refine ⟨fun h15z => ?_, fun h15z => ?_⟩
          · skip
            intro x122 o16 o17 g125 rg125
            refine ⟨fun h19z => ?_, fun h19z => ?_⟩
            · skip
              have K0 : K01 s0 g := hI
              have K1 : K01 s0 g30 := K01_trans K0 (by first | exact K01_fr rg30 (by decide))
              have K2 : K01 s0 g103 := K01_trans K1 (by first | exact K01_fr rg103 (by decide))
              have K3 : K01 s0 g114 := K01_trans K2 (qg114 (by omega))
              have K4 : K01 s0 g125 := K01_trans K3 (by first | exact K01_fr rg125 (by decide))
              exact K4
            · skip
              intro x133 o20 o21 g136 rg136
              refine ⟨fun h23z => ?_, fun h23z => ?_⟩
              · skip
                have K0 : K01 s0 g := hI
                have K1 : K01 s0 g30 := K01_trans K0 (by first | exact K01_fr rg30 (by decide))
                have K2 : K01 s0 g103 := K01_trans K1 (by first | exact K01_fr rg103 (by decide))
                have K3 : K01 s0 g114 := K01_trans K2 (qg114 (by omega))
                have K4 : K01 s0 g125 := K01_trans K3 (by first | exact K01_fr rg125 (by decide))
                have K5 : K01 s0 g136 := K01_trans K4 (by first | exact K01_fr rg136 (by decide))
                exact K5
              · skip
                intro x144 o24 o25 g147 rg147
                refine ⟨fun h27z => ?_, fun h27z => ?_⟩
                · skip
                  have K0 : K01 s0 g := hI
                  have K1 : K01 s0 g30 := K01_trans K0 (by first | exact K01_fr rg30 (by decide))
                  have K2 : K01 s0 g103 := K01_trans K1 (by first | exact K01_fr rg103 (by decide))
                  have K3 : K01 s0 g114 := K01_trans K2 (qg114 (by omega))
                  have K4 : K01 s0 g125 := K01_trans K3 (by first | exact K01_fr rg125 (by decide))
                  have K5 : K01 s0 g136 := K01_trans K4 (by first | exact K01_fr rg136 (by decide))
                  have K6 : K01 s0 g147 := K01_trans K5 (by first | exact K01_fr rg147 (by decide))
                  exact K6
                · skip
                  have K0 : K01 s0 g := hI
                  have K1 : K01 s0 g30 := K01_trans K0 (by first | exact K01_fr rg30 (by decide))
                  have K2 : K01 s0 g103 := K01_trans K1 (by first | exact K01_fr rg103 (by decide))
                  have K3 : K01 s0 g114 := K01_trans K2 (qg114 (by omega))
                  have K4 : K01 s0 g125 := K01_trans K3 (by first | exact K01_fr rg125 (by decide))
                  have K5 : K01 s0 g136 := K01_trans K4 (by first | exact K01_fr rg136 (by decide))
                  have K6 : K01 s0 g147 := K01_trans K5 (by first | exact K01_fr rg147 (by decide))
                  exact K6
          · skip
            intro z
            exact absurd z (by decide)
      · skip
        intro g155 rg155 b157 eb157 eb157
        intro g166 rg166 x168 o15 o16 ex168
        refine ⟨fun h18z => ?_, fun h18z => ?_⟩
        · skip
          intro z
          have K0 : K01 s0 g := hI
          have K1 : K01 s0 g30 := K01_trans K0 (by first | exact K01_fr rg30 (by decide) | (rcases eb157 with z | z <;> (subst z; exact K01_fr rg30 (by decide))) | (rcases eb157 with z | z <;> (subst z; exact K01_fr rg30 (by decide))))
          have K2 : K01 s0 g103 := K01_trans K1 (by first | exact K01_fr rg103 (by decide) | (rcases eb157 with z | z <;> (subst z; exact K01_fr rg103 (by decide))) | (rcases eb157 with z | z <;> (subst z; exact K01_fr rg103 (by decide))))
          have K3 : K01 s0 g155 := K01_trans K2 (by first | exact K01_fr rg155 (by decide) | (rcases eb157 with z | z <;> (subst z; exact K01_fr rg155 (by decide))) | (rcases eb157 with z | z <;> (subst z; exact K01_fr rg155 (by decide))))
          have K4 : K01 s0 g166 := K01_trans K3 (by first | exact K01_fr rg166 (by decide) | (rcases eb157 with z | z <;> (subst z; exact K01_fr rg166 (by decide))) | (rcases eb157 with z | z <;> (subst z; exact K01_fr rg166 (by decide))))
          exact K4
        · skip
          intro g179 rg179
          intro z
          have K0 : K01 s0 g := hI
          have K1 : K01 s0 g30 := K01_trans K0 (by first | exact K01_fr rg30 (by decide) | (rcases eb157 with z | z <;> (subst z; exact K01_fr rg30 (by decide))) | (rcases eb157 with z | z <;> (subst z; exact K01_fr rg30 (by decide))))
          have K2 : K01 s0 g103 := K01_trans K1 (by first | exact K01_fr rg103 (by decide) | (rcases eb157 with z | z <;> (subst z; exact K01_fr rg103 (by decide))) | (rcases eb157 with z | z <;> (subst z; exact K01_fr rg103 (by decide))))
          have K3 : K01 s0 g155 := K01_trans K2 (by first | exact K01_fr rg155 (by decide) | (rcases eb157 with z | z <;> (subst z; exact K01_fr rg155 (by decide))) | (rcases eb157 with z | z <;> (subst z; exact K01_fr rg155 (by decide))))
          have K4 : K01 s0 g166 := K01_trans K3 (by first | exact K01_fr rg166 (by decide) | (rcases eb157 with z | z <;> (subst z; exact K01_fr rg166 (by decide))) | (rcases eb157 with z | z <;> (subst z; exact K01_fr rg166 (by decide))))
          have K5 : K01 s0 g179 := K01_trans K4 (by first | exact K01_fr rg179 (by decide) | (rcases eb157 with z | z <;> (subst z; exact K01_fr rg179 (by decide))) | (rcases eb157 with z | z <;> (subst z; exact K01_fr rg179 (by decide))))
          exact K5
  · intro g v167_2 s167_0 rg o1 o2 o3 o4 hI
    refine ⟨fun h5z => ?_, fun h5z => ?_⟩
    · skip
      intro g187 rg187
      refine ⟨fun v g' => v = 1 → K01 g187 g', ?_, ?_⟩
      · skip
        exact w_1297_c6
      · skip
        intro x194 o7 o8 g197 rg197 qg197
        refine ⟨fun h11z => ?_, fun h11z => ?_⟩
        · skip
          intro b200 eb200 eb200
          intro g209 rg209 x211 o15 o16 ex211
          refine ⟨fun h18z => ?_, fun h18z => ?_⟩
          · skip
            intro z
            have K0 : K01 s0 g := hI
            have K1 : K01 s0 g187 := K01_trans K0 (by first | exact K01_fr rg187 (by decide) | (rcases eb200 with z | z <;> (subst z; exact K01_fr rg187 (by decide))) | (rcases eb200 with z | z <;> (subst z; exact K01_fr rg187 (by decide))))
            have K2 : K01 s0 g197 := K01_trans K1 (qg197 (by omega))
            have K3 : K01 s0 g209 := K01_trans K2 (by first | exact K01_fr rg209 (by decide) | (rcases eb200 with z | z <;> (subst z; exact K01_fr rg209 (by decide))) | (rcases eb200 with z | z <;> (subst z; exact K01_fr rg209 (by decide))))
            exact K3
          · skip
            intro g222 rg222
            intro z
            have K0 : K01 s0 g := hI
            have K1 : K01 s0 g187 := K01_trans K0 (by first | exact K01_fr rg187 (by decide) | (rcases eb200 with z | z <;> (subst z; exact K01_fr rg187 (by decide))) | (rcases eb200 with z | z <;> (subst z; exact K01_fr rg187 (by decide))))
            have K2 : K01 s0 g197 := K01_trans K1 (qg197 (by omega))
            have K3 : K01 s0 g209 := K01_trans K2 (by first | exact K01_fr rg209 (by decide) | (rcases eb200 with z | z <;> (subst z; exact K01_fr rg209 (by decide))) | (rcases eb200 with z | z <;> (subst z; exact K01_fr rg209 (by decide))))
            have K4 : K01 s0 g222 := K01_trans K3 (by first | exact K01_fr rg222 (by decide) | (rcases eb200 with z | z <;> (subst z; exact K01_fr rg222 (by decide))) | (rcases eb200 with z | z <;> (subst z; exact K01_fr rg222 (by decide))))
            exact K4
        · skip
          intro z
          exact absurd z (by decide)
    · skip
      intro x229 o6 o7 g232 rg232
      intro z
      exfalso
      omega
set_option maxHeartbeats 4000000 in
theorem w_1300_c6 {s0 : zF} : p_1300_c6 s0 (fun v g => v = 1 → K01 s0 g) := by
  refine ⟨fun g v2_2 => K01 s0 g, fun g v11_2 v11_3 => K01 s0 g, fun g v44_2 v44_3 => K01 s0 g, fun g v66_2 => K01 s0 g, ?_, ?_, ?_, ?_, ?_⟩
  · skip
    have K0 : K01 s0 s0 := K01_refl
    exact K0
  · intro g v2_2 rg o1 o2 hI
    refine ⟨fun h3z => ?_, fun h3z => ?_⟩
    · skip
      intro z
      have K0 : K01 s0 g := hI
      exact K0
    · skip
      have K0 : K01 s0 g := hI
      exact K0
  · intro g v11_2 v11_3 rg o1 o2 o3 o4 hI
    refine ⟨fun h5z => ?_, fun h5z => ?_⟩
    · skip
      have K0 : K01 s0 g := hI
      exact K0
    · skip
      refine ⟨fun v g' => v = 1 → K01 g g', ?_, ?_⟩
      · skip
        exact w_1301_c6
      · skip
        intro x8 o6 o7 g11 rg11 qg11
        refine ⟨fun h10z => ?_, fun h10z => ?_⟩
        · skip
          refine ⟨fun h11z => ?_, fun h11z => ?_⟩
          · skip
            intro b15 eb15 eb15
            intro g24 rg24
            have K0 : K01 s0 g := hI
            have K1 : K01 s0 g11 := K01_trans K0 (qg11 (by omega))
            have K2 : K01 s0 g24 := K01_trans K1 (by first | exact K01_fr rg24 (by decide) | (rcases eb15 with z | z <;> (subst z; exact K01_fr rg24 (by decide))) | (rcases eb15 with z | z <;> (subst z; exact K01_fr rg24 (by decide))))
            exact K2
          · skip
            have K0 : K01 s0 g := hI
            have K1 : K01 s0 g11 := K01_trans K0 (qg11 (by omega))
            exact K1
        · skip
          intro z
          exact absurd z (by decide)
  · intro g v44_2 v44_3 rg o1 o2 o3 o4 hI
    intro x31 o5 o6 g34 rg34
    refine ⟨fun h8z => ?_, fun h8z => ?_⟩
    · skip
      have K0 : K01 s0 g := hI
      have K1 : K01 s0 g34 := K01_trans K0 (by first | exact K01_fr rg34 (by decide))
      exact K1
    · skip
      intro g42 rg42 x44 ex44
      have K0 : K01 s0 g := hI
      have K1 : K01 s0 g34 := K01_trans K0 (by first | exact K01_fr rg34 (by decide))
      have K2 : K01 s0 g42 := K01_trans K1 (by first | exact K01_fr rg42 (by decide))
      exact K2
  · intro g v66_2 rg o1 o2 hI
    refine ⟨fun h3z => ?_, fun h3z => ?_⟩
    · skip
      intro b47 eb47 eb47
      intro g56 rg56
      intro x63 o7 o8 g66 rg66
      refine ⟨fun h10z => ?_, fun h10z => ?_⟩
      · skip
        intro z
        have K0 : K01 s0 g := hI
        have K1 : K01 s0 g56 := K01_trans K0 (by first | exact K01_fr rg56 (by decide) | (rcases eb47 with z | z <;> (subst z; exact K01_fr rg56 (by decide))) | (rcases eb47 with z | z <;> (subst z; exact K01_fr rg56 (by decide))))
        have K2 : K01 s0 g66 := K01_trans K1 (by first | exact K01_fr rg66 (by decide) | (rcases eb47 with z | z <;> (subst z; exact K01_fr rg66 (by decide))) | (rcases eb47 with z | z <;> (subst z; exact K01_fr rg66 (by decide))))
        exact K2
      · skip
        intro g74 rg74 x76 ex76
        have K0 : K01 s0 g := hI
        have K1 : K01 s0 g56 := K01_trans K0 (by first | exact K01_fr rg56 (by decide) | (rcases eb47 with z | z <;> (subst z; exact K01_fr rg56 (by decide))) | (rcases eb47 with z | z <;> (subst z; exact K01_fr rg56 (by decide))))
        have K2 : K01 s0 g66 := K01_trans K1 (by first | exact K01_fr rg66 (by decide) | (rcases eb47 with z | z <;> (subst z; exact K01_fr rg66 (by decide))) | (rcases eb47 with z | z <;> (subst z; exact K01_fr rg66 (by decide))))
        have K3 : K01 s0 g74 := K01_trans K2 (by first | exact K01_fr rg74 (by decide) | (rcases eb47 with z | z <;> (subst z; exact K01_fr rg74 (by decide))) | (rcases eb47 with z | z <;> (subst z; exact K01_fr rg74 (by decide))))
        exact K3
    · skip
      intro x83 o4 o5 g86 rg86
      refine ⟨fun h7z => ?_, fun h7z => ?_⟩
      · skip
        intro z
        have K0 : K01 s0 g := hI
        have K1 : K01 s0 g86 := K01_trans K0 (by first | exact K01_fr rg86 (by decide))
        exact K1
      · skip
        intro g94 rg94 x96 ex96
        have K0 : K01 s0 g := hI
        have K1 : K01 s0 g86 := K01_trans K0 (by first | exact K01_fr rg86 (by decide))
        have K2 : K01 s0 g94 := K01_trans K1 (by first | exact K01_fr rg94 (by decide))
        exact K2
set_option maxHeartbeats 4000000 in
theorem w_1301_c5 {s0 : zF} : p_1301_c5 s0 (fun v g => v = 1 → K01 s0 g) := by
  refine ⟨fun g v2_2 => K01 s0 g, fun g v28_2 => K01 s0 g, fun g v167_2 s167_0 => K01 s0 g, ?_, ?_, ?_, ?_⟩
  · skip
    have K0 : K01 s0 s0 := K01_refl
    exact K0
  · intro g v2_2 rg o1 o2 hI
    refine ⟨fun h3z => ?_, fun h3z => ?_⟩
    · skip
      have K0 : K01 s0 g := hI
      exact K0
    · skip
      intro x7 o4 o5 g10 rg10
      refine ⟨fun h7z => ?_, fun h7z => ?_⟩
      · skip
        have K0 : K01 s0 g := hI
        have K1 : K01 s0 g10 := K01_trans K0 (by first | exact K01_fr rg10 (by decide))
        exact K1
      · skip
        intro g18 rg18 x20 ex20
        have K0 : K01 s0 g := hI
        have K1 : K01 s0 g10 := K01_trans K0 (by first | exact K01_fr rg10 (by decide))
        have K2 : K01 s0 g18 := K01_trans K1 (by first | exact K01_fr rg18 (by decide))
        exact K2
  · intro g v28_2 rg o1 o2 hI
    intro x27 o3 o4 g30 rg30
    refine ⟨fun h6z => ?_, fun h6z => ?_⟩
    · skip
      intro g38 rg38
      refine ⟨fun v g' => v = 1 → K01 g38 g', ?_, ?_⟩
      · skip
        exact w_1300_c6
      · skip
        intro x45 o8 o9 g48 rg48 qg48
        refine ⟨fun h12z => ?_, fun h12z => ?_⟩
        · skip
          intro x56 o13 o14 g59 rg59
          refine ⟨fun h16z => ?_, fun h16z => ?_⟩
          · skip
            intro g67 rg67 x69 o18 o19 ex69
            refine ⟨fun h21z => ?_, fun h21z => ?_⟩
            · skip
              intro z
              have K0 : K01 s0 g := hI
              have K1 : K01 s0 g30 := K01_trans K0 (by first | exact K01_fr rg30 (by decide))
              have K2 : K01 s0 g38 := K01_trans K1 (by first | exact K01_fr rg38 (by decide))
              have K3 : K01 s0 g48 := K01_trans K2 (qg48 (by omega))
              have K4 : K01 s0 g59 := K01_trans K3 (by first | exact K01_fr rg59 (by decide))
              have K5 : K01 s0 g67 := K01_trans K4 (by first | exact K01_fr rg67 (by decide))
              exact K5
            · skip
              intro b74 eb74 eb74
              intro g83 rg83
              intro z
              have K0 : K01 s0 g := hI
              have K1 : K01 s0 g30 := K01_trans K0 (by first | exact K01_fr rg30 (by decide) | (rcases eb74 with z | z <;> (subst z; exact K01_fr rg30 (by decide))) | (rcases eb74 with z | z <;> (subst z; exact K01_fr rg30 (by decide))))
              have K2 : K01 s0 g38 := K01_trans K1 (by first | exact K01_fr rg38 (by decide) | (rcases eb74 with z | z <;> (subst z; exact K01_fr rg38 (by decide))) | (rcases eb74 with z | z <;> (subst z; exact K01_fr rg38 (by decide))))
              have K3 : K01 s0 g48 := K01_trans K2 (qg48 (by omega))
              have K4 : K01 s0 g59 := K01_trans K3 (by first | exact K01_fr rg59 (by decide) | (rcases eb74 with z | z <;> (subst z; exact K01_fr rg59 (by decide))) | (rcases eb74 with z | z <;> (subst z; exact K01_fr rg59 (by decide))))
              have K5 : K01 s0 g67 := K01_trans K4 (by first | exact K01_fr rg67 (by decide) | (rcases eb74 with z | z <;> (subst z; exact K01_fr rg67 (by decide))) | (rcases eb74 with z | z <;> (subst z; exact K01_fr rg67 (by decide))))
              have K6 : K01 s0 g83 := K01_trans K5 (by first | exact K01_fr rg83 (by decide) | (rcases eb74 with z | z <;> (subst z; exact K01_fr rg83 (by decide))) | (rcases eb74 with z | z <;> (subst z; exact K01_fr rg83 (by decide))))
              exact K6
          · skip
            intro x90 o17 o18 g93 rg93
            intro z
            exfalso
            omega
        · skip
          intro z
          exact absurd z (by decide)
    · skip
      intro x100 o7 o8 g103 rg103
      refine ⟨fun h10z => ?_, fun h10z => ?_⟩
      · skip
        refine ⟨fun v g' => v = 1 → K01 g103 g', ?_, ?_⟩
        · skip
          exact w_1297_c5
        · skip
          intro x111 o11 o12 g114 rg114 qg114
          refine ⟨fun h15z => ?_, fun h15z => ?_⟩
          · skip
            intro x122 o16 o17 g125 rg125
            refine ⟨fun h19z => ?_, fun h19z => ?_⟩
            · skip
              have K0 : K01 s0 g := hI
              have K1 : K01 s0 g30 := K01_trans K0 (by first | exact K01_fr rg30 (by decide))
              have K2 : K01 s0 g103 := K01_trans K1 (by first | exact K01_fr rg103 (by decide))
              have K3 : K01 s0 g114 := K01_trans K2 (qg114 (by omega))
              have K4 : K01 s0 g125 := K01_trans K3 (by first | exact K01_fr rg125 (by decide))
              exact K4
            · skip
              intro x133 o20 o21 g136 rg136
              refine ⟨fun h23z => ?_, fun h23z => ?_⟩
              · skip
                have K0 : K01 s0 g := hI
                have K1 : K01 s0 g30 := K01_trans K0 (by first | exact K01_fr rg30 (by decide))
                have K2 : K01 s0 g103 := K01_trans K1 (by first | exact K01_fr rg103 (by decide))
                have K3 : K01 s0 g114 := K01_trans K2 (qg114 (by omega))
                have K4 : K01 s0 g125 := K01_trans K3 (by first | exact K01_fr rg125 (by decide))
                have K5 : K01 s0 g136 := K01_trans K4 (by first | exact K01_fr rg136 (by decide))
                exact K5
              · skip
                intro x144 o24 o25 g147 rg147
                refine ⟨fun h27z => ?_, fun h27z => ?_⟩
                · skip
                  have K0 : K01 s0 g := hI
                  have K1 : K01 s0 g30 := K01_trans K0 (by first | exact K01_fr rg30 (by decide))
                  have K2 : K01 s0 g103 := K01_trans K1 (by first | exact K01_fr rg103 (by decide))
                  have K3 : K01 s0 g114 := K01_trans K2 (qg114 (by omega))
                  have K4 : K01 s0 g125 := K01_trans K3 (by first | exact K01_fr rg125 (by decide))
                  have K5 : K01 s0 g136 := K01_trans K4 (by first | exact K01_fr rg136 (by decide))
                  have K6 : K01 s0 g147 := K01_trans K5 (by first | exact K01_fr rg147 (by decide))
                  exact K6
                · skip
                  have K0 : K01 s0 g := hI
                  have K1 : K01 s0 g30 := K01_trans K0 (by first | exact K01_fr rg30 (by decide))
                  have K2 : K01 s0 g103 := K01_trans K1 (by first | exact K01_fr rg103 (by decide))
                  have K3 : K01 s0 g114 := K01_trans K2 (qg114 (by omega))
                  have K4 : K01 s0 g125 := K01_trans K3 (by first | exact K01_fr rg125 (by decide))
                  have K5 : K01 s0 g136 := K01_trans K4 (by first | exact K01_fr rg136 (by decide))
                  have K6 : K01 s0 g147 := K01_trans K5 (by first | exact K01_fr rg147 (by decide))
                  exact K6
          · skip
            intro z
            exact absurd z (by decide)
      · skip
        intro g155 rg155 b157 eb157 eb157
        intro g166 rg166 x168 o15 o16 ex168
        refine ⟨fun h18z => ?_, fun h18z => ?_⟩
        · skip
          intro z
          have K0 : K01 s0 g := hI
          have K1 : K01 s0 g30 := K01_trans K0 (by first | exact K01_fr rg30 (by decide) | (rcases eb157 with z | z <;> (subst z; exact K01_fr rg30 (by decide))) | (rcases eb157 with z | z <;> (subst z; exact K01_fr rg30 (by decide))))
          have K2 : K01 s0 g103 := K01_trans K1 (by first | exact K01_fr rg103 (by decide) | (rcases eb157 with z | z <;> (subst z; exact K01_fr rg103 (by decide))) | (rcases eb157 with z | z <;> (subst z; exact K01_fr rg103 (by decide))))
          have K3 : K01 s0 g155 := K01_trans K2 (by first | exact K01_fr rg155 (by decide) | (rcases eb157 with z | z <;> (subst z; exact K01_fr rg155 (by decide))) | (rcases eb157 with z | z <;> (subst z; exact K01_fr rg155 (by decide))))
          have K4 : K01 s0 g166 := K01_trans K3 (by first | exact K01_fr rg166 (by decide) | (rcases eb157 with z | z <;> (subst z; exact K01_fr rg166 (by decide))) | (rcases eb157 with z | z <;> (subst z; exact K01_fr rg166 (by decide))))
          exact K4
        · skip
          intro g179 rg179
          intro z
          have K0 : K01 s0 g := hI
          have K1 : K01 s0 g30 := K01_trans K0 (by first | exact K01_fr rg30 (by decide) | (rcases eb157 with z | z <;> (subst z; exact K01_fr rg30 (by decide))) | (rcases eb157 with z | z <;> (subst z; exact K01_fr rg30 (by decide))))
          have K2 : K01 s0 g103 := K01_trans K1 (by first | exact K01_fr rg103 (by decide) | (rcases eb157 with z | z <;> (subst z; exact K01_fr rg103 (by decide))) | (rcases eb157 with z | z <;> (subst z; exact K01_fr rg103 (by decide))))
          have K3 : K01 s0 g155 := K01_trans K2 (by first | exact K01_fr rg155 (by decide) | (rcases eb157 with z | z <;> (subst z; exact K01_fr rg155 (by decide))) | (rcases eb157 with z | z <;> (subst z; exact K01_fr rg155 (by decide))))
          have K4 : K01 s0 g166 := K01_trans K3 (by first | exact K01_fr rg166 (by decide) | (rcases eb157 with z | z <;> (subst z; exact K01_fr rg166 (by decide))) | (rcases eb157 with z | z <;> (subst z; exact K01_fr rg166 (by decide))))
          have K5 : K01 s0 g179 := K01_trans K4 (by first | exact K01_fr rg179 (by decide) | (rcases eb157 with z | z <;> (subst z; exact K01_fr rg179 (by decide))) | (rcases eb157 with z | z <;> (subst z; exact K01_fr rg179 (by decide))))
          exact K5
  · intro g v167_2 s167_0 rg o1 o2 o3 o4 hI
    refine ⟨fun h5z => ?_, fun h5z => ?_⟩
    · skip
      intro g187 rg187
      refine ⟨fun v g' => v = 1 → K01 g187 g', ?_, ?_⟩
      · skip
        exact w_1297_c5
      · skip
        intro x194 o7 o8 g197 rg197 qg197
        refine ⟨fun h11z => ?_, fun h11z => ?_⟩
        · skip
          intro b200 eb200 eb200
          intro g209 rg209 x211 o15 o16 ex211
          refine ⟨fun h18z => ?_, fun h18z => ?_⟩
          · skip
            intro z
            have K0 : K01 s0 g := hI
            have K1 : K01 s0 g187 := K01_trans K0 (by first | exact K01_fr rg187 (by decide) | (rcases eb200 with z | z <;> (subst z; exact K01_fr rg187 (by decide))) | (rcases eb200 with z | z <;> (subst z; exact K01_fr rg187 (by decide))))
            have K2 : K01 s0 g197 := K01_trans K1 (qg197 (by omega))
            have K3 : K01 s0 g209 := K01_trans K2 (by first | exact K01_fr rg209 (by decide) | (rcases eb200 with z | z <;> (subst z; exact K01_fr rg209 (by decide))) | (rcases eb200 with z | z <;> (subst z; exact K01_fr rg209 (by decide))))
            exact K3
          · skip
            intro g222 rg222
            intro z
            have K0 : K01 s0 g := hI
            have K1 : K01 s0 g187 := K01_trans K0 (by first | exact K01_fr rg187 (by decide) | (rcases eb200 with z | z <;> (subst z; exact K01_fr rg187 (by decide))) | (rcases eb200 with z | z <;> (subst z; exact K01_fr rg187 (by decide))))
            have K2 : K01 s0 g197 := K01_trans K1 (qg197 (by omega))
            have K3 : K01 s0 g209 := K01_trans K2 (by first | exact K01_fr rg209 (by decide) | (rcases eb200 with z | z <;> (subst z; exact K01_fr rg209 (by decide))) | (rcases eb200 with z | z <;> (subst z; exact K01_fr rg209 (by decide))))
            have K4 : K01 s0 g222 := K01_trans K3 (by first | exact K01_fr rg222 (by decide) | (rcases eb200 with z | z <;> (subst z; exact K01_fr rg222 (by decide))) | (rcases eb200 with z | z <;> (subst z; exact K01_fr rg222 (by decide))))
            exact K4
        · skip
          intro z
          exact absurd z (by decide)
    · skip
      intro x229 o6 o7 g232 rg232
      intro z
      exfalso
      omega
set_option maxHeartbeats 4000000 in
theorem w_1300_c5 {s0 : zF} : p_1300_c5 s0 (fun v g => v = 1 → K01 s0 g) := by
  refine ⟨fun g v2_2 => K01 s0 g, fun g v11_2 v11_3 => K01 s0 g, fun g v44_2 v44_3 => K01 s0 g, fun g v66_2 => K01 s0 g, ?_, ?_, ?_, ?_, ?_⟩
  · skip
    have K0 : K01 s0 s0 := K01_refl
    exact K0
  · intro g v2_2 rg o1 o2 hI
    refine ⟨fun h3z => ?_, fun h3z => ?_⟩
    · skip
      intro z
      have K0 : K01 s0 g := hI
      exact K0
    · skip
      have K0 : K01 s0 g := hI
      exact K0
  · intro g v11_2 v11_3 rg o1 o2 o3 o4 hI
    refine ⟨fun h5z => ?_, fun h5z => ?_⟩
    · skip
      have K0 : K01 s0 g := hI
      exact K0
    · skip
      refine ⟨fun v g' => v = 1 → K01 g g', ?_, ?_⟩
      · skip
        exact w_1301_c5
      · skip
        intro x8 o6 o7 g11 rg11 qg11
        refine ⟨fun h10z => ?_, fun h10z => ?_⟩
        · skip
          refine ⟨fun h11z => ?_, fun h11z => ?_⟩
          · skip
            intro b15 eb15 eb15
            intro g24 rg24
            have K0 : K01 s0 g := hI
            have K1 : K01 s0 g11 := K01_trans K0 (qg11 (by omega))
            have K2 : K01 s0 g24 := K01_trans K1 (by first | exact K01_fr rg24 (by decide) | (rcases eb15 with z | z <;> (subst z; exact K01_fr rg24 (by decide))) | (rcases eb15 with z | z <;> (subst z; exact K01_fr rg24 (by decide))))
            exact K2
          · skip
            have K0 : K01 s0 g := hI
            have K1 : K01 s0 g11 := K01_trans K0 (qg11 (by omega))
            exact K1
        · skip
          intro z
          exact absurd z (by decide)
  · intro g v44_2 v44_3 rg o1 o2 o3 o4 hI
    intro x31 o5 o6 g34 rg34
    refine ⟨fun h8z => ?_, fun h8z => ?_⟩
    · skip
      have K0 : K01 s0 g := hI
      have K1 : K01 s0 g34 := K01_trans K0 (by first | exact K01_fr rg34 (by decide))
      exact K1
    · skip
      intro g42 rg42 x44 ex44
      have K0 : K01 s0 g := hI
      have K1 : K01 s0 g34 := K01_trans K0 (by first | exact K01_fr rg34 (by decide))
      have K2 : K01 s0 g42 := K01_trans K1 (by first | exact K01_fr rg42 (by decide))
      exact K2
  · intro g v66_2 rg o1 o2 hI
    refine ⟨fun h3z => ?_, fun h3z => ?_⟩
    · skip
      intro b47 eb47 eb47
      intro g56 rg56
      intro x63 o7 o8 g66 rg66
      refine ⟨fun h10z => ?_, fun h10z => ?_⟩
      · skip
        intro z
        have K0 : K01 s0 g := hI
        have K1 : K01 s0 g56 := K01_trans K0 (by first | exact K01_fr rg56 (by decide) | (rcases eb47 with z | z <;> (subst z; exact K01_fr rg56 (by decide))) | (rcases eb47 with z | z <;> (subst z; exact K01_fr rg56 (by decide))))
        have K2 : K01 s0 g66 := K01_trans K1 (by first | exact K01_fr rg66 (by decide) | (rcases eb47 with z | z <;> (subst z; exact K01_fr rg66 (by decide))) | (rcases eb47 with z | z <;> (subst z; exact K01_fr rg66 (by decide))))
        exact K2
      · skip
        intro g74 rg74 x76 ex76
        have K0 : K01 s0 g := hI
        have K1 : K01 s0 g56 := K01_trans K0 (by first | exact K01_fr rg56 (by decide) | (rcases eb47 with z | z <;> (subst z; exact K01_fr rg56 (by decide))) | (rcases eb47 with z | z <;> (subst z; exact K01_fr rg56 (by decide))))
        have K2 : K01 s0 g66 := K01_trans K1 (by first | exact K01_fr rg66 (by decide) | (rcases eb47 with z | z <;> (subst z; exact K01_fr rg66 (by decide))) | (rcases eb47 with z | z <;> (subst z; exact K01_fr rg66 (by decide))))
        have K3 : K01 s0 g74 := K01_trans K2 (by first | exact K01_fr rg74 (by decide) | (rcases eb47 with z | z <;> (subst z; exact K01_fr rg74 (by decide))) | (rcases eb47 with z | z <;> (subst z; exact K01_fr rg74 (by decide))))
        exact K3
    · skip
      intro x83 o4 o5 g86 rg86
      refine ⟨fun h7z => ?_, fun h7z => ?_⟩
      · skip
        intro z
        have K0 : K01 s0 g := hI
        have K1 : K01 s0 g86 := K01_trans K0 (by first | exact K01_fr rg86 (by decide))
        exact K1
      · skip
        intro g94 rg94 x96 ex96
        have K0 : K01 s0 g := hI
        have K1 : K01 s0 g86 := K01_trans K0 (by first | exact K01_fr rg86 (by decide))
        have K2 : K01 s0 g94 := K01_trans K1 (by first | exact K01_fr rg94 (by decide))
        exact K2
set_option maxHeartbeats 4000000 in
theorem w_1301_c4 {s0 : zF} : p_1301_c4 s0 (fun v g => v = 1 → K01 s0 g) := by
  refine ⟨fun g v2_2 => K01 s0 g, fun g v28_2 => K01 s0 g, fun g v167_2 s167_0 => K01 s0 g, ?_, ?_, ?_, ?_⟩
  · skip
    have K0 : K01 s0 s0 := K01_refl
    exact K0
  · intro g v2_2 rg o1 o2 hI
    refine ⟨fun h3z => ?_, fun h3z => ?_⟩
    · skip
      have K0 : K01 s0 g := hI
      exact K0
    · skip
      intro x7 o4 o5 g10 rg10
      refine ⟨fun h7z => ?_, fun h7z => ?_⟩
      · skip
        have K0 : K01 s0 g := hI
        have K1 : K01 s0 g10 := K01_trans K0 (by first | exact K01_fr rg10 (by decide))
        exact K1
      · skip
        intro g18 rg18 x20 ex20
        have K0 : K01 s0 g := hI
        have K1 : K01 s0 g10 := K01_trans K0 (by first | exact K01_fr rg10 (by decide))
        have K2 : K01 s0 g18 := K01_trans K1 (by first | exact K01_fr rg18 (by decide))
        exact K2
  · intro g v28_2 rg o1 o2 hI
    intro x27 o3 o4 g30 rg30
    refine ⟨fun h6z => ?_, fun h6z => ?_⟩
    · skip
      intro g38 rg38
      refine ⟨fun v g' => v = 1 → K01 g38 g', ?_, ?_⟩
      · skip
        exact w_1300_c5
      · skip
        intro x45 o8 o9 g48 rg48 qg48
        refine ⟨fun h12z => ?_, fun h12z => ?_⟩
        · skip
          intro x56 o13 o14 g59 rg59
          refine ⟨fun h16z => ?_, fun h16z => ?_⟩
          · skip
            intro g67 rg67 x69 o18 o19 ex69
            refine ⟨fun h21z => ?_, fun h21z => ?_⟩
            · skip
              intro z
              have K0 : K01 s0 g := hI
              have K1 : K01 s0 g30 := K01_trans K0 (by first | exact K01_fr rg30 (by decide))
              have K2 : K01 s0 g38 := K01_trans K1 (by first | exact K01_fr rg38 (by decide))
              have K3 : K01 s0 g48 := K01_trans K2 (qg48 (by omega))
              have K4 : K01 s0 g59 := K01_trans K3 (by first | exact K01_fr rg59 (by decide))
              have K5 : K01 s0 g67 := K01_trans K4 (by first | exact K01_fr rg67 (by decide))
              exact K5
            · skip
              intro b74 eb74 eb74
              intro g83 rg83
              intro z
              have K0 : K01 s0 g := hI
              have K1 : K01 s0 g30 := K01_trans K0 (by first | exact K01_fr rg30 (by decide) | (rcases eb74 with z | z <;> (subst z; exact K01_fr rg30 (by decide))) | (rcases eb74 with z | z <;> (subst z; exact K01_fr rg30 (by decide))))
              have K2 : K01 s0 g38 := K01_trans K1 (by first | exact K01_fr rg38 (by decide) | (rcases eb74 with z | z <;> (subst z; exact K01_fr rg38 (by decide))) | (rcases eb74 with z | z <;> (subst z; exact K01_fr rg38 (by decide))))
              have K3 : K01 s0 g48 := K01_trans K2 (qg48 (by omega))
              have K4 : K01 s0 g59 := K01_trans K3 (by first | exact K01_fr rg59 (by decide) | (rcases eb74 with z | z <;> (subst z; exact K01_fr rg59 (by decide))) | (rcases eb74 with z | z <;> (subst z; exact K01_fr rg59 (by decide))))
              have K5 : K01 s0 g67 := K01_trans K4 (by first | exact K01_fr rg67 (by decide) | (rcases eb74 with z | z <;> (subst z; exact K01_fr rg67 (by decide))) | (rcases eb74 with z | z <;> (subst z; exact K01_fr rg67 (by decide))))
              have K6 : K01 s0 g83 := K01_trans K5 (by first | exact K01_fr rg83 (by decide) | (rcases eb74 with z | z <;> (subst z; exact K01_fr rg83 (by decide))) | (rcases eb74 with z | z <;> (subst z; exact K01_fr rg83 (by decide))))
              exact K6
          · skip
            intro x90 o17 o18 g93 rg93
            intro z
            exfalso
            omega
        · skip
          intro z
          exact absurd z (by decide)
    · skip
      intro x100 o7 o8 g103 rg103
      refine ⟨fun h10z => ?_, fun h10z => ?_⟩
      · skip
        refine ⟨fun v g' => v = 1 → K01 g103 g', ?_, ?_⟩
        · skip
          exact w_1297_c4
        · skip
          intro x111 o11 o12 g114 rg114 qg114
          refine ⟨fun h15z => ?_, fun h15z => ?_⟩
          · skip
            intro x122 o16 o17 g125 rg125
            refine ⟨fun h19z => ?_, fun h19z => ?_⟩
            · skip
              have K0 : K01 s0 g := hI
              have K1 : K01 s0 g30 := K01_trans K0 (by first | exact K01_fr rg30 (by decide))
              have K2 : K01 s0 g103 := K01_trans K1 (by first | exact K01_fr rg103 (by decide))
              have K3 : K01 s0 g114 := K01_trans K2 (qg114 (by omega))
              have K4 : K01 s0 g125 := K01_trans K3 (by first | exact K01_fr rg125 (by decide))
              exact K4
            · skip
              intro x133 o20 o21 g136 rg136
              refine ⟨fun h23z => ?_, fun h23z => ?_⟩
              · skip
                have K0 : K01 s0 g := hI
                have K1 : K01 s0 g30 := K01_trans K0 (by first | exact K01_fr rg30 (by decide))
                have K2 : K01 s0 g103 := K01_trans K1 (by first | exact K01_fr rg103 (by decide))
                have K3 : K01 s0 g114 := K01_trans K2 (qg114 (by omega))
                have K4 : K01 s0 g125 := K01_trans K3 (by first | exact K01_fr rg125 (by decide))
                have K5 : K01 s0 g136 := K01_trans K4 (by first | exact K01_fr rg136 (by decide))
                exact K5
              · skip
                intro x144 o24 o25 g147 rg147
                refine ⟨fun h27z => ?_, fun h27z => ?_⟩
                · skip
                  have K0 : K01 s0 g := hI
                  have K1 : K01 s0 g30 := K01_trans K0 (by first | exact K01_fr rg30 (by decide))
                  have K2 : K01 s0 g103 := K01_trans K1 (by first | exact K01_fr rg103 (by decide))
                  have K3 : K01 s0 g114 := K01_trans K2 (qg114 (by omega))
                  have K4 : K01 s0 g125 := K01_trans K3 (by first | exact K01_fr rg125 (by decide))
                  have K5 : K01 s0 g136 := K01_trans K4 (by first | exact K01_fr rg136 (by decide))
                  have K6 : K01 s0 g147 := K01_trans K5 (by first | exact K01_fr rg147 (by decide))
                  exact K6
                · skip
                  have K0 : K01 s0 g := hI
                  have K1 : K01 s0 g30 := K01_trans K0 (by first | exact K01_fr rg30 (by decide))
                  have K2 : K01 s0 g103 := K01_trans K1 (by first | exact K01_fr rg103 (by decide))
                  have K3 : K01 s0 g114 := K01_trans K2 (qg114 (by omega))
                  have K4 : K01 s0 g125 := K01_trans K3 (by first | exact K01_fr rg125 (by decide))
                  have K5 : K01 s0 g136 := K01_trans K4 (by first | exact K01_fr rg136 (by decide))
                  have K6 : K01 s0 g147 := K01_trans K5 (by first | exact K01_fr rg147 (by decide))
                  exact K6
          · skip
            intro z
            exact absurd z (by decide)
      · skip
        intro g155 rg155 b157 eb157 eb157
        intro g166 rg166 x168 o15 o16 ex168
        refine ⟨fun h18z => ?_, fun h18z => ?_⟩
        · skip
          intro z
          have K0 : K01 s0 g := hI
          have K1 : K01 s0 g30 := K01_trans K0 (by first | exact K01_fr rg30 (by decide) | (rcases eb157 with z | z <;> (subst z; exact K01_fr rg30 (by decide))) | (rcases eb157 with z | z <;> (subst z; exact K01_fr rg30 (by decide))))
          have K2 : K01 s0 g103 := K01_trans K1 (by first | exact K01_fr rg103 (by decide) | (rcases eb157 with z | z <;> (subst z; exact K01_fr rg103 (by decide))) | (rcases eb157 with z | z <;> (subst z; exact K01_fr rg103 (by decide))))
          have K3 : K01 s0 g155 := K01_trans K2 (by first | exact K01_fr rg155 (by decide) | (rcases eb157 with z | z <;> (subst z; exact K01_fr rg155 (by decide))) | (rcases eb157 with z | z <;> (subst z; exact K01_fr rg155 (by decide))))
          have K4 : K01 s0 g166 := K01_trans K3 (by first | exact K01_fr rg166 (by decide) | (rcases eb157 with z | z <;> (subst z; exact K01_fr rg166 (by decide))) | (rcases eb157 with z | z <;> (subst z; exact K01_fr rg166 (by decide))))
          exact K4
        · skip
          intro g179 rg179
          intro z
          have K0 : K01 s0 g := hI
          have K1 : K01 s0 g30 := K01_trans K0 (by first | exact K01_fr rg30 (by decide) | (rcases eb157 with z | z <;> (subst z; exact K01_fr rg30 (by decide))) | (rcases eb157 with z | z <;> (subst z; exact K01_fr rg30 (by decide))))
          have K2 : K01 s0 g103 := K01_trans K1 (by first | exact K01_fr rg103 (by decide) | (rcases eb157 with z | z <;> (subst z; exact K01_fr rg103 (by decide))) | (rcases eb157 with z | z <;> (subst z; exact K01_fr rg103 (by decide))))
          have K3 : K01 s0 g155 := K01_trans K2 (by first | exact K01_fr rg155 (by decide) | (rcases eb157 with z | z <;> (subst z; exact K01_fr rg155 (by decide))) | (rcases eb157 with z | z <;> (subst z; exact K01_fr rg155 (by decide))))
          have K4 : K01 s0 g166 := K01_trans K3 (by first | exact K01_fr rg166 (by decide) | (rcases eb157 with z | z <;> (subst z; exact K01_fr rg166 (by decide))) | (rcases eb157 with z | z <;> (subst z; exact K01_fr rg166 (by decide))))
          have K5 : K01 s0 g179 := K01_trans K4 (by first | exact K01_fr rg179 (by decide) | (rcases eb157 with z | z <;> (subst z; exact K01_fr rg179 (by decide))) | (rcases eb157 with z | z <;> (subst z; exact K01_fr rg179 (by decide))))
          exact K5
  · intro g v167_2 s167_0 rg o1 o2 o3 o4 hI
    refine ⟨fun h5z => ?_, fun h5z => ?_⟩
    · skip
      intro g187 rg187
      refine ⟨fun v g' => v = 1 → K01 g187 g', ?_, ?_⟩
      · skip
        exact w_1297_c4
      · skip
        intro x194 o7 o8 g197 rg197 qg197
        refine ⟨fun h11z => ?_, fun h11z => ?_⟩
        · skip
          intro b200 eb200 eb200
          intro g209 rg209 x211 o15 o16 ex211
          refine ⟨fun h18z => ?_, fun h18z => ?_⟩
          · skip
            intro z
            have K0 : K01 s0 g := hI
            have K1 : K01 s0 g187 := K01_trans K0 (by first | exact K01_fr rg187 (by decide) | (rcases eb200 with z | z <;> (subst z; exact K01_fr rg187 (by decide))) | (rcases eb200 with z | z <;> (subst z; exact K01_fr rg187 (by decide))))
            have K2 : K01 s0 g197 := K01_trans K1 (qg197 (by omega))
            have K3 : K01 s0 g209 := K01_trans K2 (by first | exact K01_fr rg209 (by decide) | (rcases eb200 with z | z <;> (subst z; exact K01_fr rg209 (by decide))) | (rcases eb200 with z | z <;> (subst z; exact K01_fr rg209 (by decide))))
            exact K3
          · skip
            intro g222 rg222
            intro z
            have K0 : K01 s0 g := hI
            have K1 : K01 s0 g187 := K01_trans K0 (by first | exact K01_fr rg187 (by decide) | (rcases eb200 with z | z <;> (subst z; exact K01_fr rg187 (by decide))) | (rcases eb200 with z | z <;> (subst z; exact K01_fr rg187 (by decide))))
            have K2 : K01 s0 g197 := K01_trans K1 (qg197 (by omega))
            have K3 : K01 s0 g209 := K01_trans K2 (by first | exact K01_fr rg209 (by decide) | (rcases eb200 with z | z <;> (subst z; exact K01_fr rg209 (by decide))) | (rcases eb200 with z | z <;> (subst z; exact K01_fr rg209 (by decide))))
            have K4 : K01 s0 g222 := K01_trans K3 (by first | exact K01_fr rg222 (by decide) | (rcases eb200 with z | z <;> (subst z; exact K01_fr rg222 (by decide))) | (rcases eb200 with z | z <;> (subst z; exact K01_fr rg222 (by decide))))
            exact K4
        · skip
          intro z
          exact absurd z (by decide)
    · skip
      intro x229 o6 o7 g232 rg232
      intro z
      exfalso
      omega
set_option maxHeartbeats 4000000 in
theorem w_1300_c4 {s0 : zF} : p_1300_c4 s0 (fun v g => v = 1 → K01 s0 g) := by
  refine ⟨fun g v2_2 => K01 s0 g, fun g v11_2 v11_3 => K01 s0 g, fun g v44_2 v44_3 => K01 s0 g, fun g v66_2 => K01 s0 g, ?_, ?_, ?_, ?_, ?_⟩
  · skip
    have K0 : K01 s0 s0 := K01_refl
    exact K0
  · intro g v2_2 rg o1 o2 hI
    refine ⟨fun h3z => ?_, fun h3z => ?_⟩
    · skip
      intro z
      have K0 : K01 s0 g := hI
      exact K0
    · skip
      have K0 : K01 s0 g := hI
      exact K0
  · intro g v11_2 v11_3 rg o1 o2 o3 o4 hI
    refine ⟨fun h5z => ?_, fun h5z => ?_⟩
    · skip
      have K0 : K01 s0 g := hI
      exact K0
    · skip
      refine ⟨fun v g' => v = 1 → K01 g g', ?_, ?_⟩
      · skip
        exact w_1301_c4
      · skip
        intro x8 o6 o7 g11 rg11 qg11
        refine ⟨fun h10z => ?_, fun h10z => ?_⟩
        · skip
          refine ⟨fun h11z => ?_, fun h11z => ?_⟩
          · skip
            intro b15 eb15 eb15
            intro g24 rg24
            have K0 : K01 s0 g := hI
            have K1 : K01 s0 g11 := K01_trans K0 (qg11 (by omega))
            have K2 : K01 s0 g24 := K01_trans K1 (by first | exact K01_fr rg24 (by decide) | (rcases eb15 with z | z <;> (subst z; exact K01_fr rg24 (by decide))) | (rcases eb15 with z | z <;> (subst z; exact K01_fr rg24 (by decide))))
            exact K2
          · skip
            have K0 : K01 s0 g := hI
            have K1 : K01 s0 g11 := K01_trans K0 (qg11 (by omega))
            exact K1
        · skip
          intro z
          exact absurd z (by decide)
  · intro g v44_2 v44_3 rg o1 o2 o3 o4 hI
    intro x31 o5 o6 g34 rg34
    refine ⟨fun h8z => ?_, fun h8z => ?_⟩
    · skip
      have K0 : K01 s0 g := hI
      have K1 : K01 s0 g34 := K01_trans K0 (by first | exact K01_fr rg34 (by decide))
      exact K1
    · skip
      intro g42 rg42 x44 ex44
      have K0 : K01 s0 g := hI
      have K1 : K01 s0 g34 := K01_trans K0 (by first | exact K01_fr rg34 (by decide))
      have K2 : K01 s0 g42 := K01_trans K1 (by first | exact K01_fr rg42 (by decide))
      exact K2
  · intro g v66_2 rg o1 o2 hI
    refine ⟨fun h3z => ?_, fun h3z => ?_⟩
    · skip
      intro b47 eb47 eb47
      intro g56 rg56
      intro x63 o7 o8 g66 rg66
      refine ⟨fun h10z => ?_, fun h10z => ?_⟩
      · skip
        intro z
        have K0 : K01 s0 g := hI
        have K1 : K01 s0 g56 := K01_trans K0 (by first | exact K01_fr rg56 (by decide) | (rcases eb47 with z | z <;> (subst z; exact K01_fr rg56 (by decide))) | (rcases eb47 with z | z <;> (subst z; exact K01_fr rg56 (by decide))))
        have K2 : K01 s0 g66 := K01_trans K1 (by first | exact K01_fr rg66 (by decide) | (rcases eb47 with z | z <;> (subst z; exact K01_fr rg66 (by decide))) | (rcases eb47 with z | z <;> (subst z; exact K01_fr rg66 (by decide))))
        exact K2
      · skip
        intro g74 rg74 x76 ex76
        have K0 : K01 s0 g := hI
        have K1 : K01 s0 g56 := K01_trans K0 (by first | exact K01_fr rg56 (by decide) | (rcases eb47 with z | z <;> (subst z; exact K01_fr rg56 (by decide))) | (rcases eb47 with z | z <;> (subst z; exact K01_fr rg56 (by decide))))
        have K2 : K01 s0 g66 := K01_trans K1 (by first | exact K01_fr rg66 (by decide) | (rcases eb47 with z | z <;> (subst z; exact K01_fr rg66 (by decide))) | (rcases eb47 with z | z <;> (subst z; exact K01_fr rg66 (by decide))))
        have K3 : K01 s0 g74 := K01_trans K2 (by first | exact K01_fr rg74 (by decide) | (rcases eb47 with z | z <;> (subst z; exact K01_fr rg74 (by decide))) | (rcases eb47 with z | z <;> (subst z; exact K01_fr rg74 (by decide))))
        exact K3
    · skip
      intro x83 o4 o5 g86 rg86
      refine ⟨fun h7z => ?_, fun h7z => ?_⟩
      · skip
        intro z
        have K0 : K01 s0 g := hI
        have K1 : K01 s0 g86 := K01_trans K0 (by first | exact K01_fr rg86 (by decide))
        exact K1
      · skip
        intro g94 rg94 x96 ex96
        have K0 : K01 s0 g := hI
        have K1 : K01 s0 g86 := K01_trans K0 (by first | exact K01_fr rg86 (by decide))
        have K2 : K01 s0 g94 := K01_trans K1 (by first | exact K01_fr rg94 (by decide))
        exact K2
set_option maxHeartbeats 4000000 in
theorem w_1301_c3 {s0 : zF} : p_1301_c3 s0 (fun v g => v = 1 → K01 s0 g) := by
  refine ⟨fun g v2_2 => K01 s0 g, fun g v28_2 => K01 s0 g, fun g v167_2 s167_0 => K01 s0 g, ?_, ?_, ?_, ?_⟩
  · skip
    have K0 : K01 s0 s0 := K01_refl
    exact K0
  · intro g v2_2 rg o1 o2 hI
    refine ⟨fun h3z => ?_, fun h3z => ?_⟩
    · skip
      have K0 : K01 s0 g := hI
      exact K0
    · skip
      intro x7 o4 o5 g10 rg10
      refine ⟨fun h7z => ?_, fun h7z => ?_⟩
      · skip
        have K0 : K01 s0 g := hI
        have K1 : K01 s0 g10 := K01_trans K0 (by first | exact K01_fr rg10 (by decide))
        exact K1
      · skip
        intro g18 rg18 x20 ex20
        have K0 : K01 s0 g := hI
        have K1 : K01 s0 g10 := K01_trans K0 (by first | exact K01_fr rg10 (by decide))
        have K2 : K01 s0 g18 := K01_trans K1 (by first | exact K01_fr rg18 (by decide))
        exact K2
  · intro g v28_2 rg o1 o2 hI
    intro x27 o3 o4 g30 rg30
    refine ⟨fun h6z => ?_, fun h6z => ?_⟩
    · skip
      intro g38 rg38
      refine ⟨fun v g' => v = 1 → K01 g38 g', ?_, ?_⟩
      · skip
        exact w_1300_c4
      · skip
        intro x45 o8 o9 g48 rg48 qg48
        refine ⟨fun h12z => ?_, fun h12z => ?_⟩
        · skip
          intro x56 o13 o14 g59 rg59
          refine ⟨fun h16z => ?_, fun h16z => ?_⟩
          · skip
            intro g67 rg67 x69 o18 o19 ex69
            refine ⟨fun h21z => ?_, fun h21z => ?_⟩
            · skip
              intro z
              have K0 : K01 s0 g := hI
              have K1 : K01 s0 g30 := K01_trans K0 (by first | exact K01_fr rg30 (by decide))
              have K2 : K01 s0 g38 := K01_trans K1 (by first | exact K01_fr rg38 (by decide))
              have K3 : K01 s0 g48 := K01_trans K2 (qg48 (by omega))
              have K4 : K01 s0 g59 := K01_trans K3 (by first | exact K01_fr rg59 (by decide))
              have K5 : K01 s0 g67 := K01_trans K4 (by first | exact K01_fr rg67 (by decide))
              exact K5
            · skip
              intro b74 eb74 eb74
              intro g83 rg83
              intro z
              have K0 : K01 s0 g := hI
              have K1 : K01 s0 g30 := K01_trans K0 (by first | exact K01_fr rg30 (by decide) | (rcases eb74 with z | z <;> (subst z; exact K01_fr rg30 (by decide))) | (rcases eb74 with z | z <;> (subst z; exact K01_fr rg30 (by decide))))
              have K2 : K01 s0 g38 := K01_trans K1 (by first | exact K01_fr rg38 (by decide) | (rcases eb74 with z | z <;> (subst z; exact K01_fr rg38 (by decide))) | (rcases eb74 with z | z <;> (subst z; exact K01_fr rg38 (by decide))))
              have K3 : K01 s0 g48 := K01_trans K2 (qg48 (by omega))
              have K4 : K01 s0 g59 := K01_trans K3 (by first | exact K01_fr rg59 (by decide) | (rcases eb74 with z | z <;> (subst z; exact K01_fr rg59 (by decide))) | (rcases eb74 with z | z <;> (subst z; exact K01_fr rg59 (by decide))))
              have K5 : K01 s0 g67 := K01_trans K4 (by first | exact K01_fr rg67 (by decide) | (rcases eb74 with z | z <;> (subst z; exact K01_fr rg67 (by decide))) | (rcases eb74 with z | z <;> (subst z; exact K01_fr rg67 (by decide))))
              have K6 : K01 s0 g83 := K01_trans K5 (by first | exact K01_fr rg83 (by decide) | (rcases eb74 with z | z <;> (subst z; exact K01_fr rg83 (by decide))) | (rcases eb74 with z | z <;> (subst z; exact K01_fr rg83 (by decide))))
              exact K6
          · skip
            intro x90 o17 o18 g93 rg93
            intro z
            exfalso
            omega
        · skip
          intro z
          exact absurd z (by decide)
    · skip
      intro x100 o7 o8 g103 rg103
      refine ⟨fun h10z => ?_, fun h10z => ?_⟩
      · skip
        refine ⟨fun v g' => v = 1 → K01 g103 g', ?_, ?_⟩
        · skip
          exact w_1297_c3
        · skip
          intro x111 o11 o12 g114 rg114 qg114
          refine ⟨fun h15z => ?_, fun h15z => ?_⟩
          · skip
            intro x122 o16 o17 g125 rg125
            refine ⟨fun h19z => ?_, fun h19z => ?_⟩
            · skip
              have K0 : K01 s0 g := hI
              have K1 : K01 s0 g30 := K01_trans K0 (by first | exact K01_fr rg30 (by decide))
              have K2 : K01 s0 g103 := K01_trans K1 (by first | exact K01_fr rg103 (by decide))
              have K3 : K01 s0 g114 := K01_trans K2 (qg114 (by omega))
              have K4 : K01 s0 g125 := K01_trans K3 (by first | exact K01_fr rg125 (by decide))
              exact K4
            · skip
              intro x133 o20 o21 g136 rg136
              refine ⟨fun h23z => ?_, fun h23z => ?_⟩
              · skip
                have K0 : K01 s0 g := hI
                have K1 : K01 s0 g30 := K01_trans K0 (by first | exact K01_fr rg30 (by decide))
                have K2 : K01 s0 g103 := K01_trans K1 (by first | exact K01_fr rg103 (by decide))
                have K3 : K01 s0 g114 := K01_trans K2 (qg114 (by omega))
                have K4 : K01 s0 g125 := K01_trans K3 (by first | exact K01_fr rg125 (by decide))
                have K5 : K01 s0 g136 := K01_trans K4 (by first | exact K01_fr rg136 (by decide))
                exact K5
              · skip
                intro x144 o24 o25 g147 rg147
                refine ⟨fun h27z => ?_, fun h27z => ?_⟩
                · skip
                  have K0 : K01 s0 g := hI
                  have K1 : K01 s0 g30 := K01_trans K0 (by first | exact K01_fr rg30 (by decide))
                  have K2 : K01 s0 g103 := K01_trans K1 (by first | exact K01_fr rg103 (by decide))
                  have K3 : K01 s0 g114 := K01_trans K2 (qg114 (by omega))
                  have K4 : K01 s0 g125 := K01_trans K3 (by first | exact K01_fr rg125 (by decide))
                  have K5 : K01 s0 g136 := K01_trans K4 (by first | exact K01_fr rg136 (by decide))
                  have K6 : K01 s0 g147 := K01_trans K5 (by first | exact K01_fr rg147 (by decide))
                  exact K6
                · skip
                  have K0 : K01 s0 g := hI
                  have K1 : K01 s0 g30 := K01_trans K0 (by first | exact K01_fr rg30 (by decide))
                  have K2 : K01 s0 g103 := K01_trans K1 (by first | exact K01_fr rg103 (by decide))
                  have K3 : K01 s0 g114 := K01_trans K2 (qg114 (by omega))
                  have K4 : K01 s0 g125 := K01_trans K3 (by first | exact K01_fr rg125 (by decide))
                  have K5 : K01 s0 g136 := K01_trans K4 (by first | exact K01_fr rg136 (by decide))
                  have K6 : K01 s0 g147 := K01_trans K5 (by first | exact K01_fr rg147 (by decide))
                  exact K6
          · skip
            intro z
            exact absurd z (by decide)
      · skip
        intro g155 rg155 b157 eb157 eb157
        intro g166 rg166 x168 o15 o16 ex168
        refine ⟨fun h18z => ?_, fun h18z => ?_⟩
        · skip
          intro z
          have K0 : K01 s0 g := hI
          have K1 : K01 s0 g30 := K01_trans K0 (by first | exact K01_fr rg30 (by decide) | (rcases eb157 with z | z <;> (subst z; exact K01_fr rg30 (by decide))) | (rcases eb157 with z | z <;> (subst z; exact K01_fr rg30 (by decide))))
          have K2 : K01 s0 g103 := K01_trans K1 (by first | exact K01_fr rg103 (by decide) | (rcases eb157 with z | z <;> (subst z; exact K01_fr rg103 (by decide))) | (rcases eb157 with z | z <;> (subst z; exact K01_fr rg103 (by decide))))
          have K3 : K01 s0 g155 := K01_trans K2 (by first | exact K01_fr rg155 (by decide) | (rcases eb157 with z | z <;> (subst z; exact K01_fr rg155 (by decide))) | (rcases eb157 with z | z <;> (subst z; exact K01_fr rg155 (by decide))))
          have K4 : K01 s0 g166 := K01_trans K3 (by first | exact K01_fr rg166 (by decide) | (rcases eb157 with z | z <;> (subst z; exact K01_fr rg166 (by decide))) | (rcases eb157 with z | z <;> (subst z; exact K01_fr rg166 (by decide))))
          exact K4
        · skip
          intro g179 rg179
          intro z
          have K0 : K01 s0 g := hI
          have K1 : K01 s0 g30 := K01_trans K0 (by first | exact K01_fr rg30 (by decide) | (rcases eb157 with z | z <;> (subst z; exact K01_fr rg30 (by decide))) | (rcases eb157 with z | z <;> (subst z; exact K01_fr rg30 (by decide))))
          have K2 : K01 s0 g103 := K01_trans K1 (by first | exact K01_fr rg103 (by decide) | (rcases eb157 with z | z <;> (subst z; exact K01_fr rg103 (by decide))) | (rcases eb157 with z | z <;> (subst z; exact K01_fr rg103 (by decide))))
          have K3 : K01 s0 g155 := K01_trans K2 (by first | exact K01_fr rg155 (by decide) | (rcases eb157 with z | z <;> (subst z; exact K01_fr rg155 (by decide))) | (rcases eb157 with z | z <;> (subst z; exact K01_fr rg155 (by decide))))
          have K4 : K01 s0 g166 := K01_trans K3 (by first | exact K01_fr rg166 (by decide) | (rcases eb157 with z | z <;> (subst z; exact K01_fr rg166 (by decide))) | (rcases eb157 with z | z <;> (subst z; exact K01_fr rg166 (by decide))))
          have K5 : K01 s0 g179 := K01_trans K4 (by first | exact K01_fr rg179 (by decide) | (rcases eb157 with z | z <;> (subst z; exact K01_fr rg179 (by decide))) | (rcases eb157 with z | z <;> (subst z; exact K01_fr rg179 (by decide))))
          exact K5
  · intro g v167_2 s167_0 rg o1 o2 o3 o4 hI
    refine ⟨fun h5z => ?_, fun h5z => ?_⟩
    · skip
      intro g187 rg187
      refine ⟨fun v g' => v = 1 → K01 g187 g', ?_, ?_⟩
      · skip
        exact w_1297_c3
      · skip
        intro x194 o7 o8 g197 rg197 qg197
        refine ⟨fun h11z => ?_, fun h11z => ?_⟩
        · skip
          intro b200 eb200 eb200
          intro g209 rg209 x211 o15 o16 ex211
          refine ⟨fun h18z => ?_, fun h18z => ?_⟩
          · skip
            intro z
            have K0 : K01 s0 g := hI
            have K1 : K01 s0 g187 := K01_trans K0 (by first | exact K01_fr rg187 (by decide) | (rcases eb200 with z | z <;> (subst z; exact K01_fr rg187 (by decide))) | (rcases eb200 with z | z <;> (subst z; exact K01_fr rg187 (by decide))))
            have K2 : K01 s0 g197 := K01_trans K1 (qg197 (by omega))
            have K3 : K01 s0 g209 := K01_trans K2 (by first | exact K01_fr rg209 (by decide) | (rcases eb200 with z | z <;> (subst z; exact K01_fr rg209 (by decide))) | (rcases eb200 with z | z <;> (subst z; exact K01_fr rg209 (by decide))))
            exact K3
          · skip
            intro g222 rg222
            intro z
            have K0 : K01 s0 g := hI
            have K1 : K01 s0 g187 := K01_trans K0 (by first | exact K01_fr rg187 (by decide) | (rcases eb200 with z | z <;> (subst z; exact K01_fr rg187 (by decide))) | (rcases eb200 with z | z <;> (subst z; exact K01_fr rg187 (by decide))))
            have K2 : K01 s0 g197 := K01_trans K1 (qg197 (by omega))
            have K3 : K01 s0 g209 := K01_trans K2 (by first | exact K01_fr rg209 (by decide) | (rcases eb200 with z | z <;> (subst z; exact K01_fr rg209 (by decide))) | (rcases eb200 with z | z <;> (subst z; exact K01_fr rg209 (by decide))))
            have K4 : K01 s0 g222 := K01_trans K3 (by first | exact K01_fr rg222 (by decide) | (rcases eb200 with z | z <;> (subst z; exact K01_fr rg222 (by decide))) | (rcases eb200 with z | z <;> (subst z; exact K01_fr rg222 (by decide))))
            exact K4
        · skip
          intro z
          exact absurd z (by decide)
    · skip
      intro x229 o6 o7 g232 rg232
      intro z
      exfalso
      omega
set_option maxHeartbeats 4000000 in
theorem w_1300_c3 {s0 : zF} : p_1300_c3 s0 (fun v g => v = 1 → K01 s0 g) := by
  refine ⟨fun g v2_2 => K01 s0 g, fun g v11_2 v11_3 => K01 s0 g, fun g v44_2 v44_3 => K01 s0 g, fun g v66_2 => K01 s0 g, ?_, ?_, ?_, ?_, ?_⟩
  · skip
    have K0 : K01 s0 s0 := K01_refl
    exact K0
  · intro g v2_2 rg o1 o2 hI
    refine ⟨fun h3z => ?_, fun h3z => ?_⟩
    · skip
      intro z
      have K0 : K01 s0 g := hI
      exact K0
    · skip
      have K0 : K01 s0 g := hI
      exact K0
  · intro g v11_2 v11_3 rg o1 o2 o3 o4 hI
    refine ⟨fun h5z => ?_, fun h5z => ?_⟩
    · skip
      have K0 : K01 s0 g := hI
      exact K0
    · skip
      refine ⟨fun v g' => v = 1 → K01 g g', ?_, ?_⟩
      · skip
        exact w_1301_c3
      · skip
        intro x8 o6 o7 g11 rg11 qg11
        refine ⟨fun h10z => ?_, fun h10z => ?_⟩
        · skip
          refine ⟨fun h11z => ?_, fun h11z => ?_⟩
          · skip
            intro b15 eb15 eb15
            intro g24 rg24
            have K0 : K01 s0 g := hI
            have K1 : K01 s0 g11 := K01_trans K0 (qg11 (by omega))
            have K2 : K01 s0 g24 := K01_trans K1 (by first | exact K01_fr rg24 (by decide) | (rcases eb15 with z | z <;> (subst z; exact K01_fr rg24 (by decide))) | (rcases eb15 with z | z <;> (subst z; exact K01_fr rg24 (by decide))))
            exact K2
          · skip
            have K0 : K01 s0 g := hI
            have K1 : K01 s0 g11 := K01_trans K0 (qg11 (by omega))
            exact K1
        · skip
          intro z
          exact absurd z (by decide)
  · intro g v44_2 v44_3 rg o1 o2 o3 o4 hI
    intro x31 o5 o6 g34 rg34
    refine ⟨fun h8z => ?_, fun h8z => ?_⟩
    · skip
      have K0 : K01 s0 g := hI
      have K1 : K01 s0 g34 := K01_trans K0 (by first | exact K01_fr rg34 (by decide))
      exact K1
    · skip
      intro g42 rg42 x44 ex44
      have K0 : K01 s0 g := hI
      have K1 : K01 s0 g34 := K01_trans K0 (by first | exact K01_fr rg34 (by decide))
      have K2 : K01 s0 g42 := K01_trans K1 (by first | exact K01_fr rg42 (by decide))
      exact K2
  · intro g v66_2 rg o1 o2 hI
    refine ⟨fun h3z => ?_, fun h3z => ?_⟩
    · skip
      intro b47 eb47 eb47
      intro g56 rg56
      intro x63 o7 o8 g66 rg66
      refine ⟨fun h10z => ?_, fun h10z => ?_⟩
      · skip
        intro z
        have K0 : K01 s0 g := hI
        have K1 : K01 s0 g56 := K01_trans K0 (by first | exact K01_fr rg56 (by decide) | (rcases eb47 with z | z <;> (subst z; exact K01_fr rg56 (by decide))) | (rcases eb47 with z | z <;> (subst z; exact K01_fr rg56 (by decide))))
        have K2 : K01 s0 g66 := K01_trans K1 (by first | exact K01_fr rg66 (by decide) | (rcases eb47 with z | z <;> (subst z; exact K01_fr rg66 (by decide))) | (rcases eb47 with z | z <;> (subst z; exact K01_fr rg66 (by decide))))
        exact K2
      · skip
        intro g74 rg74 x76 ex76
        have K0 : K01 s0 g := hI
        have K1 : K01 s0 g56 := K01_trans K0 (by first | exact K01_fr rg56 (by decide) | (rcases eb47 with z | z <;> (subst z; exact K01_fr rg56 (by decide))) | (rcases eb47 with z | z <;> (subst z; exact K01_fr rg56 (by decide))))
        have K2 : K01 s0 g66 := K01_trans K1 (by first | exact K01_fr rg66 (by decide) | (rcases eb47 with z | z <;> (subst z; exact K01_fr rg66 (by decide))) | (rcases eb47 with z | z <;> (subst z; exact K01_fr rg66 (by decide))))
        have K3 : K01 s0 g74 := K01_trans K2 (by first | exact K01_fr rg74 (by decide) | (rcases eb47 with z | z <;> (subst z; exact K01_fr rg74 (by decide))) | (rcases eb47 with z | z <;> (subst z; exact K01_fr rg74 (by decide))))
        exact K3
    · skip
      intro x83 o4 o5 g86 rg86
      refine ⟨fun h7z => ?_, fun h7z => ?_⟩
      · skip
        intro z
        have K0 : K01 s0 g := hI
        have K1 : K01 s0 g86 := K01_trans K0 (by first | exact K01_fr rg86 (by decide))
        exact K1
      · skip
        intro g94 rg94 x96 ex96
        have K0 : K01 s0 g := hI
        have K1 : K01 s0 g86 := K01_trans K0 (by first | exact K01_fr rg86 (by decide))
        have K2 : K01 s0 g94 := K01_trans K1 (by first | exact K01_fr rg94 (by decide))
        exact K2
set_option maxHeartbeats 4000000 in
theorem w_1301_c2 {s0 : zF} : p_1301_c2 s0 (fun v g => v = 1 → K01 s0 g) := by
  refine ⟨fun g v2_2 => K01 s0 g, fun g v28_2 => K01 s0 g, fun g v167_2 s167_0 => K01 s0 g, ?_, ?_, ?_, ?_⟩
  · skip
    have K0 : K01 s0 s0 := K01_refl
    exact K0
  · intro g v2_2 rg o1 o2 hI
    refine ⟨fun h3z => ?_, fun h3z => ?_⟩
    · skip
      have K0 : K01 s0 g := hI
      exact K0
    · skip
      intro x7 o4 o5 g10 rg10
      refine ⟨fun h7z => ?_, fun h7z => ?_⟩
      · skip
        have K0 : K01 s0 g := hI
        have K1 : K01 s0 g10 := K01_trans K0 (by first | exact K01_fr rg10 (by decide))
        exact K1
      · skip
        intro g18 rg18 x20 ex20
        have K0 : K01 s0 g := hI
        have K1 : K01 s0 g10 := K01_trans K0 (by first | exact K01_fr rg10 (by decide))
        have K2 : K01 s0 g18 := K01_trans K1 (by first | exact K01_fr rg18 (by decide))
        exact K2
  · intro g v28_2 rg o1 o2 hI
    intro x27 o3 o4 g30 rg30
    refine ⟨fun h6z => ?_, fun h6z => ?_⟩
    · skip
      intro g38 rg38
      refine ⟨fun v g' => v = 1 → K01 g38 g', ?_, ?_⟩
      · skip
        exact w_1300_c3
      · skip
        intro x45 o8 o9 g48 rg48 qg48
        refine ⟨fun h12z => ?_, fun h12z => ?_⟩
        · skip
          intro x56 o13 o14 g59 rg59
          refine ⟨fun h16z => ?_, fun h16z => ?_⟩
          · skip
            intro g67 rg67 x69 o18 o19 ex69
            refine ⟨fun h21z => ?_, fun h21z => ?_⟩
            · skip
              intro z
              have K0 : K01 s0 g := hI
              have K1 : K01 s0 g30 := K01_trans K0 (by first | exact K01_fr rg30 (by decide))
              have K2 : K01 s0 g38 := K01_trans K1 (by first | exact K01_fr rg38 (by decide))
              have K3 : K01 s0 g48 := K01_trans K2 (qg48 (by omega))
              have K4 : K01 s0 g59 := K01_trans K3 (by first | exact K01_fr rg59 (by decide))
              have K5 : K01 s0 g67 := K01_trans K4 (by first | exact K01_fr rg67 (by decide))
              exact K5
            · skip
              intro b74 eb74 eb74
              intro g83 rg83
              intro z
              have K0 : K01 s0 g := hI
              have K1 : K01 s0 g30 := K01_trans K0 (by first | exact K01_fr rg30 (by decide) | (rcases eb74 with z | z <;> (subst z; exact K01_fr rg30 (by decide))) | (rcases eb74 with z | z <;> (subst z; exact K01_fr rg30 (by decide))))
              have K2 : K01 s0 g38 := K01_trans K1 (by first | exact K01_fr rg38 (by decide) | (rcases eb74 with z | z <;> (subst z; exact K01_fr rg38 (by decide))) | (rcases eb74 with z | z <;> (subst z; exact K01_fr rg38 (by decide))))
              have K3 : K01 s0 g48 := K01_trans K2 (qg48 (by omega))
              have K4 : K01 s0 g59 := K01_trans K3 (by first | exact K01_fr rg59 (by decide) | (rcases eb74 with z | z <;> (subst z; exact K01_fr rg59 (by decide))) | (rcases eb74 with z | z <;> (subst z; exact K01_fr rg59 (by decide))))
              have K5 : K01 s0 g67 := K01_trans K4 (by first | exact K01_fr rg67 (by decide) | (rcases eb74 with z | z <;> (subst z; exact K01_fr rg67 (by decide))) | (rcases eb74 with z | z <;> (subst z; exact K01_fr rg67 (by decide))))
              have K6 : K01 s0 g83 := K01_trans K5 (by first | exact K01_fr rg83 (by decide) | (rcases eb74 with z | z <;> (subst z; exact K01_fr rg83 (by decide))) | (rcases eb74 with z | z <;> (subst z; exact K01_fr rg83 (by decide))))
              exact K6
          · skip
            intro x90 o17 o18 g93 rg93
            intro z
            exfalso
            omega
        · skip
          intro z
          exact absurd z (by decide)
    · skip
      intro x100 o7 o8 g103 rg103
      refine ⟨fun h10z => ?_, fun h10z => ?_⟩
      · skip
        refine ⟨fun v g' => v = 1 → K01 g103 g', ?_, ?_⟩
        · skip
          exact w_1297_c2
        · skip
          intro x111 o11 o12 g114 rg114 qg114
          refine ⟨fun h15z => ?_, fun h15z => ?_⟩
          · skip
            intro x122 o16 o17 g125 rg125
            refine ⟨fun h19z => ?_, fun h19z => ?_⟩
            · skip
              have K0 : K01 s0 g := hI
              have K1 : K01 s0 g30 := K01_trans K0 (by first | exact K01_fr rg30 (by decide))
              have K2 : K01 s0 g103 := K01_trans K1 (by first | exact K01_fr rg103 (by decide))
              have K3 : K01 s0 g114 := K01_trans K2 (qg114 (by omega))
              have K4 : K01 s0 g125 := K01_trans K3 (by first | exact K01_fr rg125 (by decide))
              exact K4
            · skip
              intro x133 o20 o21 g136 rg136
              refine ⟨fun h23z => ?_, fun h23z => ?_⟩
              · skip
                have K0 : K01 s0 g := hI
                have K1 : K01 s0 g30 := K01_trans K0 (by first | exact K01_fr rg30 (by decide))
                have K2 : K01 s0 g103 := K01_trans K1 (by first | exact K01_fr rg103 (by decide))
                have K3 : K01 s0 g114 := K01_trans K2 (qg114 (by omega))
                have K4 : K01 s0 g125 := K01_trans K3 (by first | exact K01_fr rg125 (by decide))
                have K5 : K01 s0 g136 := K01_trans K4 (by first | exact K01_fr rg136 (by decide))
                exact K5
              · skip
                intro x144 o24 o25 g147 rg147
                refine ⟨fun h27z => ?_, fun h27z => ?_⟩
                · skip
                  have K0 : K01 s0 g := hI
                  have K1 : K01 s0 g30 := K01_trans K0 (by first | exact K01_fr rg30 (by decide))
                  have K2 : K01 s0 g103 := K01_trans K1 (by first | exact K01_fr rg103 (by decide))
                  have K3 : K01 s0 g114 := K01_trans K2 (qg114 (by omega))
                  have K4 : K01 s0 g125 := K01_trans K3 (by first | exact K01_fr rg125 (by decide))
                  have K5 : K01 s0 g136 := K01_trans K4 (by first | exact K01_fr rg136 (by decide))
                  have K6 : K01 s0 g147 := K01_trans K5 (by first | exact K01_fr rg147 (by decide))
                  exact K6
                · skip
                  have K0 : K01 s0 g := hI
                  have K1 : K01 s0 g30 := K01_trans K0 (by first | exact K01_fr rg30 (by decide))
                  have K2 : K01 s0 g103 := K01_trans K1 (by first | exact K01_fr rg103 (by decide))
                  have K3 : K01 s0 g114 := K01_trans K2 (qg114 (by omega))
                  have K4 : K01 s0 g125 := K01_trans K3 (by first | exact K01_fr rg125 (by decide))
                  have K5 : K01 s0 g136 := K01_trans K4 (by first | exact K01_fr rg136 (by decide))
                  have K6 : K01 s0 g147 := K01_trans K5 (by first | exact K01_fr rg147 (by decide))
                  exact K6
          · skip
            intro z
            exact absurd z (by decide)
      · skip
        intro g155 rg155 b157 eb157 eb157
        intro g166 rg166 x168 o15 o16 ex168
        refine ⟨fun h18z => ?_, fun h18z => ?_⟩
        · skip
          intro z
          have K0 : K01 s0 g := hI
          have K1 : K01 s0 g30 := K01_trans K0 (by first | exact K01_fr rg30 (by decide) | (rcases eb157 with z | z <;> (subst z; exact K01_fr rg30 (by decide))) | (rcases eb157 with z | z <;> (subst z; exact K01_fr rg30 (by decide))))
          have K2 : K01 s0 g103 := K01_trans K1 (by first | exact K01_fr rg103 (by decide) | (rcases eb157 with z | z <;> (subst z; exact K01_fr rg103 (by decide))) | (rcases eb157 with z | z <;> (subst z; exact K01_fr rg103 (by decide))))
          have K3 : K01 s0 g155 := K01_trans K2 (by first | exact K01_fr rg155 (by decide) | (rcases eb157 with z | z <;> (subst z; exact K01_fr rg155 (by decide))) | (rcases eb157 with z | z <;> (subst z; exact K01_fr rg155 (by decide))))
          have K4 : K01 s0 g166 := K01_trans K3 (by first | exact K01_fr rg166 (by decide) | (rcases eb157 with z | z <;> (subst z; exact K01_fr rg166 (by decide))) | (rcases eb157 with z | z <;> (subst z; exact K01_fr rg166 (by decide))))
          exact K4
        · skip
          intro g179 rg179
          intro z
          have K0 : K01 s0 g := hI
          have K1 : K01 s0 g30 := K01_trans K0 (by first | exact K01_fr rg30 (by decide) | (rcases eb157 with z | z <;> (subst z; exact K01_fr rg30 (by decide))) | (rcases eb157 with z | z <;> (subst z; exact K01_fr rg30 (by decide))))
          have K2 : K01 s0 g103 := K01_trans K1 (by first | exact K01_fr rg103 (by decide) | (rcases eb157 with z | z <;> (subst z; exact K01_fr rg103 (by decide))) | (rcases eb157 with z | z <;> (subst z; exact K01_fr rg103 (by decide))))
          have K3 : K01 s0 g155 := K01_trans K2 (by first | exact K01_fr rg155 (by decide) | (rcases eb157 with z | z <;> (subst z; exact K01_fr rg155 (by decide))) | (rcases eb157 with z | z <;> (subst z; exact K01_fr rg155 (by decide))))
          have K4 : K01 s0 g166 := K01_trans K3 (by first | exact K01_fr rg166 (by decide) | (rcases eb157 with z | z <;> (subst z; exact K01_fr rg166 (by decide))) | (rcases eb157 with z | z <;> (subst z; exact K01_fr rg166 (by decide))))
          have K5 : K01 s0 g179 := K01_trans K4 (by first | exact K01_fr rg179 (by decide) | (rcases eb157 with z | z <;> (subst z; exact K01_fr rg179 (by decide))) | (rcases eb157 with z | z <;> (subst z; exact K01_fr rg179 (by decide))))
          exact K5
  · intro g v167_2 s167_0 rg o1 o2 o3 o4 hI
    refine ⟨fun h5z => ?_, fun h5z => ?_⟩
    · skip
      intro g187 rg187
      refine ⟨fun v g' => v = 1 → K01 g187 g', ?_, ?_⟩
      · skip
        exact w_1297_c2
      · skip
        intro x194 o7 o8 g197 rg197 qg197
        refine ⟨fun h11z => ?_, fun h11z => ?_⟩
        · skip
          intro b200 eb200 eb200
          intro g209 rg209 x211 o15 o16 ex211
          refine ⟨fun h18z => ?_, fun h18z => ?_⟩
          · skip
            intro z
            have K0 : K01 s0 g := hI
            have K1 : K01 s0 g187 := K01_trans K0 (by first | exact K01_fr rg187 (by decide) | (rcases eb200 with z | z <;> (subst z; exact K01_fr rg187 (by decide))) | (rcases eb200 with z | z <;> (subst z; exact K01_fr rg187 (by decide))))
            have K2 : K01 s0 g197 := K01_trans K1 (qg197 (by omega))
            have K3 : K01 s0 g209 := K01_trans K2 (by first | exact K01_fr rg209 (by decide) | (rcases eb200 with z | z <;> (subst z; exact K01_fr rg209 (by decide))) | (rcases eb200 with z | z <;> (subst z; exact K01_fr rg209 (by decide))))
            exact K3
          · skip
            intro g222 rg222
            intro z
            have K0 : K01 s0 g := hI
            have K1 : K01 s0 g187 := K01_trans K0 (by first | exact K01_fr rg187 (by decide) | (rcases eb200 with z | z <;> (subst z; exact K01_fr rg187 (by decide))) | (rcases eb200 with z | z <;> (subst z; exact K01_fr rg187 (by decide))))
            have K2 : K01 s0 g197 := K01_trans K1 (qg197 (by omega))
            have K3 : K01 s0 g209 := K01_trans K2 (by first | exact K01_fr rg209 (by decide) | (rcases eb200 with z | z <;> (subst z; exact K01_fr rg209 (by decide))) | (rcases eb200 with z | z <;> (subst z; exact K01_fr rg209 (by decide))))
            have K4 : K01 s0 g222 := K01_trans K3 (by first | exact K01_fr rg222 (by decide) | (rcases eb200 with z | z <;> (subst z; exact K01_fr rg222 (by decide))) | (rcases eb200 with z | z <;> (subst z; exact K01_fr rg222 (by decide))))
            exact K4
        · skip
          intro z
          exact absurd z (by decide)
    · skip
      intro x229 o6 o7 g232 rg232
      intro z
      exfalso
      omega
set_option maxHeartbeats 4000000 in
theorem w_1300_c2 {s0 : zF} : p_1300_c2 s0 (fun v g => v = 1 → K01 s0 g) := by
  refine ⟨fun g v2_2 => K01 s0 g, fun g v11_2 v11_3 => K01 s0 g, fun g v44_2 v44_3 => K01 s0 g, fun g v66_2 => K01 s0 g, ?_, ?_, ?_, ?_, ?_⟩
  · skip
    have K0 : K01 s0 s0 := K01_refl
    exact K0
  · intro g v2_2 rg o1 o2 hI
    refine ⟨fun h3z => ?_, fun h3z => ?_⟩
    · skip
      intro z
      have K0 : K01 s0 g := hI
      exact K0
    · skip
      have K0 : K01 s0 g := hI
      exact K0
  · intro g v11_2 v11_3 rg o1 o2 o3 o4 hI
    refine ⟨fun h5z => ?_, fun h5z => ?_⟩
    · skip
      have K0 : K01 s0 g := hI
      exact K0
    · skip
      refine ⟨fun v g' => v = 1 → K01 g g', ?_, ?_⟩
      · skip
        exact w_1301_c2
      · skip
        intro x8 o6 o7 g11 rg11 qg11
        refine ⟨fun h10z => ?_, fun h10z => ?_⟩
        · skip
          refine ⟨fun h11z => ?_, fun h11z => ?_⟩
          · skip
            intro b15 eb15 eb15
            intro g24 rg24
            have K0 : K01 s0 g := hI
            have K1 : K01 s0 g11 := K01_trans K0 (qg11 (by omega))
            have K2 : K01 s0 g24 := K01_trans K1 (by first | exact K01_fr rg24 (by decide) | (rcases eb15 with z | z <;> (subst z; exact K01_fr rg24 (by decide))) | (rcases eb15 with z | z <;> (subst z; exact K01_fr rg24 (by decide))))
            exact K2
          · skip
            have K0 : K01 s0 g := hI
            have K1 : K01 s0 g11 := K01_trans K0 (qg11 (by omega))
            exact K1
        · skip
          intro z
          exact absurd z (by decide)
  · intro g v44_2 v44_3 rg o1 o2 o3 o4 hI
    intro x31 o5 o6 g34 rg34
    refine ⟨fun h8z => ?_, fun h8z => ?_⟩
    · skip
      have K0 : K01 s0 g := hI
      have K1 : K01 s0 g34 := K01_trans K0 (by first | exact K01_fr rg34 (by decide))
      exact K1
    · skip
      intro g42 rg42 x44 ex44
      have K0 : K01 s0 g := hI
      have K1 : K01 s0 g34 := K01_trans K0 (by first | exact K01_fr rg34 (by decide))
      have K2 : K01 s0 g42 := K01_trans K1 (by first | exact K01_fr rg42 (by decide))
      exact K2
  · intro g v66_2 rg o1 o2 hI
    refine ⟨fun h3z => ?_, fun h3z => ?_⟩
    · skip
      intro b47 eb47 eb47
      intro g56 rg56
      intro x63 o7 o8 g66 rg66
      refine ⟨fun h10z => ?_, fun h10z => ?_⟩
      · skip
        intro z
        have K0 : K01 s0 g := hI
        have K1 : K01 s0 g56 := K01_trans K0 (by first | exact K01_fr rg56 (by decide) | (rcases eb47 with z | z <;> (subst z; exact K01_fr rg56 (by decide))) | (rcases eb47 with z | z <;> (subst z; exact K01_fr rg56 (by decide))))
        have K2 : K01 s0 g66 := K01_trans K1 (by first | exact K01_fr rg66 (by decide) | (rcases eb47 with z | z <;> (subst z; exact K01_fr rg66 (by decide))) | (rcases eb47 with z | z <;> (subst z; exact K01_fr rg66 (by decide))))
        exact K2
      · skip
        intro g74 rg74 x76 ex76
        have K0 : K01 s0 g := hI
        have K1 : K01 s0 g56 := K01_trans K0 (by first | exact K01_fr rg56 (by decide) | (rcases eb47 with z | z <;> (subst z; exact K01_fr rg56 (by decide))) | (rcases eb47 with z | z <;> (subst z; exact K01_fr rg56 (by decide))))
        have K2 : K01 s0 g66 := K01_trans K1 (by first | exact K01_fr rg66 (by decide) | (rcases eb47 with z | z <;> (subst z; exact K01_fr rg66 (by decide))) | (rcases eb47 with z | z <;> (subst z; exact K01_fr rg66 (by decide))))
        have K3 : K01 s0 g74 := K01_trans K2 (by first | exact K01_fr rg74 (by decide) | (rcases eb47 with z | z <;> (subst z; exact K01_fr rg74 (by decide))) | (rcases eb47 with z | z <;> (subst z; exact K01_fr rg74 (by decide))))
        exact K3
    · skip
      intro x83 o4 o5 g86 rg86
      refine ⟨fun h7z => ?_, fun h7z => ?_⟩
      · skip
        intro z
        have K0 : K01 s0 g := hI
        have K1 : K01 s0 g86 := K01_trans K0 (by first | exact K01_fr rg86 (by decide))
        exact K1
      · skip
        intro g94 rg94 x96 ex96
        have K0 : K01 s0 g := hI
        have K1 : K01 s0 g86 := K01_trans K0 (by first | exact K01_fr rg86 (by decide))
        have K2 : K01 s0 g94 := K01_trans K1 (by first | exact K01_fr rg94 (by decide))
        exact K2
set_option maxHeartbeats 4000000 in
theorem w_1301_c1 {s0 : zF} : p_1301_c1 s0 (fun v g => v = 1 → K01 s0 g) := by
  refine ⟨fun g v2_2 => K01 s0 g, fun g v28_2 => K01 s0 g, fun g v167_2 s167_0 => K01 s0 g, ?_, ?_, ?_, ?_⟩
  · skip
    have K0 : K01 s0 s0 := K01_refl
    exact K0
  · intro g v2_2 rg o1 o2 hI
    refine ⟨fun h3z => ?_, fun h3z => ?_⟩
    · skip
      have K0 : K01 s0 g := hI
      exact K0
    · skip
      intro x7 o4 o5 g10 rg10
      refine ⟨fun h7z => ?_, fun h7z => ?_⟩
      · skip
        have K0 : K01 s0 g := hI
        have K1 : K01 s0 g10 := K01_trans K0 (by first | exact K01_fr rg10 (by decide))
        exact K1
      · skip
        intro g18 rg18 x20 ex20
        have K0 : K01 s0 g := hI
        have K1 : K01 s0 g10 := K01_trans K0 (by first | exact K01_fr rg10 (by decide))
        have K2 : K01 s0 g18 := K01_trans K1 (by first | exact K01_fr rg18 (by decide))
        exact K2
  · intro g v28_2 rg o1 o2 hI
    intro x27 o3 o4 g30 rg30
    refine ⟨fun h6z => ?_, fun h6z => ?_⟩
    · skip
      intro g38 rg38
      refine ⟨fun v g' => v = 1 → K01 g38 g', ?_, ?_⟩
      · skip
        exact w_1300_c2
      · skip
        intro x45 o8 o9 g48 rg48 qg48
        refine ⟨fun h12z => ?_, fun h12z => ?_⟩
        · skip
          intro x56 o13 o14 g59 rg59
          refine ⟨fun h16z => ?_, fun h16z => ?_⟩
          · skip
            intro g67 rg67 x69 o18 o19 ex69
            refine ⟨fun h21z => ?_, fun h21z => ?_⟩
            · skip
              intro z
              have K0 : K01 s0 g := hI
              have K1 : K01 s0 g30 := K01_trans K0 (by first | exact K01_fr rg30 (by decide))
              have K2 : K01 s0 g38 := K01_trans K1 (by first | exact K01_fr rg38 (by decide))
              have K3 : K01 s0 g48 := K01_trans K2 (qg48 (by omega))
              have K4 : K01 s0 g59 := K01_trans K3 (by first | exact K01_fr rg59 (by decide))
              have K5 : K01 s0 g67 := K01_trans K4 (by first | exact K01_fr rg67 (by decide))
              exact K5
            · skip
              intro b74 eb74 eb74
              intro g83 rg83
              intro z
              have K0 : K01 s0 g := hI
              have K1 : K01 s0 g30 := K01_trans K0 (by first | exact K01_fr rg30 (by decide) | (rcases eb74 with z | z <;> (subst z; exact K01_fr rg30 (by decide))) | (rcases eb74 with z | z <;> (subst z; exact K01_fr rg30 (by decide))))
              have K2 : K01 s0 g38 := K01_trans K1 (by first | exact K01_fr rg38 (by decide) | (rcases eb74 with z | z <;> (subst z; exact K01_fr rg38 (by decide))) | (rcases eb74 with z | z <;> (subst z; exact K01_fr rg38 (by decide))))
              have K3 : K01 s0 g48 := K01_trans K2 (qg48 (by omega))
              have K4 : K01 s0 g59 := K01_trans K3 (by first | exact K01_fr rg59 (by decide) | (rcases eb74 with z | z <;> (subst z; exact K01_fr rg59 (by decide))) | (rcases eb74 with z | z <;> (subst z; exact K01_fr rg59 (by decide))))
              have K5 : K01 s0 g67 := K01_trans K4 (by first | exact K01_fr rg67 (by decide) | (rcases eb74 with z | z <;> (subst z; exact K01_fr rg67 (by decide))) | (rcases eb74 with z | z <;> (subst z; exact K01_fr rg67 (by decide))))
              have K6 : K01 s0 g83 := K01_trans K5 (by first | exact K01_fr rg83 (by decide) | (rcases eb74 with z | z <;> (subst z; exact K01_fr rg83 (by decide))) | (rcases eb74 with z | z <;> (subst z; exact K01_fr rg83 (by decide))))
              exact K6
          · skip
            intro x90 o17 o18 g93 rg93
            intro z
            exfalso
            omega
        · skip
          intro z
          exact absurd z (by decide)
    · skip
      intro x100 o7 o8 g103 rg103
      refine ⟨fun h10z => ?_, fun h10z => ?_⟩
      · skip
        refine ⟨fun v g' => v = 1 → K01 g103 g', ?_, ?_⟩
        · skip
          exact w_1297_c1
        · skip
          intro x111 o11 o12 g114 rg114 qg114
          refine ⟨fun h15z => ?_, fun h15z => ?_⟩
          · skip
            intro x122 o16 o17 g125 rg125
            refine ⟨fun h19z => ?_, fun h19z => ?_⟩
            · skip
              have K0 : K01 s0 g := hI
              have K1 : K01 s0 g30 := K01_trans K0 (by first | exact K01_fr rg30 (by decide))
              have K2 : K01 s0 g103 := K01_trans K1 (by first | exact K01_fr rg103 (by decide))
              have K3 : K01 s0 g114 := K01_trans K2 (qg114 (by omega))
              have K4 : K01 s0 g125 := K01_trans K3 (by first | exact K01_fr rg125 (by decide))
              exact K4
            · skip
              intro x133 o20 o21 g136 rg136
              refine ⟨fun h23z => ?_, fun h23z => ?_⟩
              · skip
                have K0 : K01 s0 g := hI
                have K1 : K01 s0 g30 := K01_trans K0 (by first | exact K01_fr rg30 (by decide))
                have K2 : K01 s0 g103 := K01_trans K1 (by first | exact K01_fr rg103 (by decide))
                have K3 : K01 s0 g114 := K01_trans K2 (qg114 (by omega))
                have K4 : K01 s0 g125 := K01_trans K3 (by first | exact K01_fr rg125 (by decide))
                have K5 : K01 s0 g136 := K01_trans K4 (by first | exact K01_fr rg136 (by decide))
                exact K5
              · skip
                intro x144 o24 o25 g147 rg147
                refine ⟨fun h27z => ?_, fun h27z => ?_⟩
                · skip
                  have K0 : K01 s0 g := hI
                  have K1 : K01 s0 g30 := K01_trans K0 (by first | exact K01_fr rg30 (by decide))
                  have K2 : K01 s0 g103 := K01_trans K1 (by first | exact K01_fr rg103 (by decide))
                  have K3 : K01 s0 g114 := K01_trans K2 (qg114 (by omega))
                  have K4 : K01 s0 g125 := K01_trans K3 (by first | exact K01_fr rg125 (by decide))
                  have K5 : K01 s0 g136 := K01_trans K4 (by first | exact K01_fr rg136 (by decide))
                  have K6 : K01 s0 g147 := K01_trans K5 (by first | exact K01_fr rg147 (by decide))
                  exact K6
                · skip
                  have K0 : K01 s0 g := hI
                  have K1 : K01 s0 g30 := K01_trans K0 (by first | exact K01_fr rg30 (by decide))
                  have K2 : K01 s0 g103 := K01_trans K1 (by first | exact K01_fr rg103 (by decide))
                  have K3 : K01 s0 g114 := K01_trans K2 (qg114 (by omega))
                  have K4 : K01 s0 g125 := K01_trans K3 (by first | exact K01_fr rg125 (by decide))
                  have K5 : K01 s0 g136 := K01_trans K4 (by first | exact K01_fr rg136 (by decide))
                  have K6 : K01 s0 g147 := K01_trans K5 (by first | exact K01_fr rg147 (by decide))
                  exact K6
          · skip
            intro z
            exact absurd z (by decide)
      · skip
        intro g155 rg155 b157 eb157 eb157
        intro g166 rg166 x168 o15 o16 ex168
        refine ⟨fun h18z => ?_, fun h18z => ?_⟩
        · skip
          intro z
          have K0 : K01 s0 g := hI
          have K1 : K01 s0 g30 := K01_trans K0 (by first | exact K01_fr rg30 (by decide) | (rcases eb157 with z | z <;> (subst z; exact K01_fr rg30 (by decide))) | (rcases eb157 with z | z <;> (subst z; exact K01_fr rg30 (by decide))))
          have K2 : K01 s0 g103 := K01_trans K1 (by first | exact K01_fr rg103 (by decide) | (rcases eb157 with z | z <;> (subst z; exact K01_fr rg103 (by decide))) | (rcases eb157 with z | z <;> (subst z; exact K01_fr rg103 (by decide))))
          have K3 : K01 s0 g155 := K01_trans K2 (by first | exact K01_fr rg155 (by decide) | (rcases eb157 with z | z <;> (subst z; exact K01_fr rg155 (by decide))) | (rcases eb157 with z | z <;> (subst z; exact K01_fr rg155 (by decide))))
          have K4 : K01 s0 g166 := K01_trans K3 (by first | exact K01_fr rg166 (by decide) | (rcases eb157 with z | z <;> (subst z; exact K01_fr rg166 (by decide))) | (rcases eb157 with z | z <;> (subst z; exact K01_fr rg166 (by decide))))
          exact K4
        · skip
          intro g179 rg179
          intro z
          have K0 : K01 s0 g := hI
          have K1 : K01 s0 g30 := K01_trans K0 (by first | exact K01_fr rg30 (by decide) | (rcases eb157 with z | z <;> (subst z; exact K01_fr rg30 (by decide))) | (rcases eb157 with z | z <;> (subst z; exact K01_fr rg30 (by decide))))
          have K2 : K01 s0 g103 := K01_trans K1 (by first | exact K01_fr rg103 (by decide) | (rcases eb157 with z | z <;> (subst z; exact K01_fr rg103 (by decide))) | (rcases eb157 with z | z <;> (subst z; exact K01_fr rg103 (by decide))))
          have K3 : K01 s0 g155 := K01_trans K2 (by first | exact K01_fr rg155 (by decide) | (rcases eb157 with z | z <;> (subst z; exact K01_fr rg155 (by decide))) | (rcases eb157 with z | z <;> (subst z; exact K01_fr rg155 (by decide))))
          have K4 : K01 s0 g166 := K01_trans K3 (by first | exact K01_fr rg166 (by decide) | (rcases eb157 with z | z <;> (subst z; exact K01_fr rg166 (by decide))) | (rcases eb157 with z | z <;> (subst z; exact K01_fr rg166 (by decide))))
          have K5 : K01 s0 g179 := K01_trans K4 (by first | exact K01_fr rg179 (by decide) | (rcases eb157 with z | z <;> (subst z; exact K01_fr rg179 (by decide))) | (rcases eb157 with z | z <;> (subst z; exact K01_fr rg179 (by decide))))
          exact K5
  · intro g v167_2 s167_0 rg o1 o2 o3 o4 hI
    refine ⟨fun h5z => ?_, fun h5z => ?_⟩
    · skip
      intro g187 rg187
      refine ⟨fun v g' => v = 1 → K01 g187 g', ?_, ?_⟩
      · skip
        exact w_1297_c1
      · skip
        intro x194 o7 o8 g197 rg197 qg197
        refine ⟨fun h11z => ?_, fun h11z => ?_⟩
        · skip
          intro b200 eb200 eb200
          intro g209 rg209 x211 o15 o16 ex211
          refine ⟨fun h18z => ?_, fun h18z => ?_⟩
          · skip
            intro z
            have K0 : K01 s0 g := hI
            have K1 : K01 s0 g187 := K01_trans K0 (by first | exact K01_fr rg187 (by decide) | (rcases eb200 with z | z <;> (subst z; exact K01_fr rg187 (by decide))) | (rcases eb200 with z | z <;> (subst z; exact K01_fr rg187 (by decide))))
            have K2 : K01 s0 g197 := K01_trans K1 (qg197 (by omega))
            have K3 : K01 s0 g209 := K01_trans K2 (by first | exact K01_fr rg209 (by decide) | (rcases eb200 with z | z <;> (subst z; exact K01_fr rg209 (by decide))) | (rcases eb200 with z | z <;> (subst z; exact K01_fr rg209 (by decide))))
            exact K3
          · skip
            intro g222 rg222
            intro z
            have K0 : K01 s0 g := hI
            have K1 : K01 s0 g187 := K01_trans K0 (by first | exact K01_fr rg187 (by decide) | (rcases eb200 with z | z <;> (subst z; exact K01_fr rg187 (by decide))) | (rcases eb200 with z | z <;> (subst z; exact K01_fr rg187 (by decide))))
            have K2 : K01 s0 g197 := K01_trans K1 (qg197 (by omega))
            have K3 : K01 s0 g209 := K01_trans K2 (by first | exact K01_fr rg209 (by decide) | (rcases eb200 with z | z <;> (subst z; exact K01_fr rg209 (by decide))) | (rcases eb200 with z | z <;> (subst z; exact K01_fr rg209 (by decide))))
            have K4 : K01 s0 g222 := K01_trans K3 (by first | exact K01_fr rg222 (by decide) | (rcases eb200 with z | z <;> (subst z; exact K01_fr rg222 (by decide))) | (rcases eb200 with z | z <;> (subst z; exact K01_fr rg222 (by decide))))
            exact K4
        · skip
          intro z
          exact absurd z (by decide)
    · skip
      intro x229 o6 o7 g232 rg232
      intro z
      exfalso
      omega
set_option maxHeartbeats 4000000 in
theorem w_1300_c1 {s0 : zF} : p_1300_c1 s0 (fun v g => v = 1 → K01 s0 g) := by
  refine ⟨fun g v2_2 => K01 s0 g, fun g v11_2 v11_3 => K01 s0 g, fun g v44_2 v44_3 => K01 s0 g, fun g v66_2 => K01 s0 g, ?_, ?_, ?_, ?_, ?_⟩
  · skip
    have K0 : K01 s0 s0 := K01_refl
    exact K0
  · intro g v2_2 rg o1 o2 hI
    refine ⟨fun h3z => ?_, fun h3z => ?_⟩
    · skip
      intro z
      have K0 : K01 s0 g := hI
      exact K0
    · skip
      have K0 : K01 s0 g := hI
      exact K0
  · intro g v11_2 v11_3 rg o1 o2 o3 o4 hI
    refine ⟨fun h5z => ?_, fun h5z => ?_⟩
    · skip
      have K0 : K01 s0 g := hI
      exact K0
    · skip
      refine ⟨fun v g' => v = 1 → K01 g g', ?_, ?_⟩
      · skip
        exact w_1301_c1
      · skip
        intro x8 o6 o7 g11 rg11 qg11
        refine ⟨fun h10z => ?_, fun h10z => ?_⟩
        · skip
          refine ⟨fun h11z => ?_, fun h11z => ?_⟩
          · skip
            intro b15 eb15 eb15
            intro g24 rg24
            have K0 : K01 s0 g := hI
            have K1 : K01 s0 g11 := K01_trans K0 (qg11 (by omega))
            have K2 : K01 s0 g24 := K01_trans K1 (by first | exact K01_fr rg24 (by decide) | (rcases eb15 with z | z <;> (subst z; exact K01_fr rg24 (by decide))) | (rcases eb15 with z | z <;> (subst z; exact K01_fr rg24 (by decide))))
            exact K2
          · skip
            have K0 : K01 s0 g := hI
            have K1 : K01 s0 g11 := K01_trans K0 (qg11 (by omega))
            exact K1
        · skip
          intro z
          exact absurd z (by decide)
  · intro g v44_2 v44_3 rg o1 o2 o3 o4 hI
    intro x31 o5 o6 g34 rg34
    refine ⟨fun h8z => ?_, fun h8z => ?_⟩
    · skip
      have K0 : K01 s0 g := hI
      have K1 : K01 s0 g34 := K01_trans K0 (by first | exact K01_fr rg34 (by decide))
      exact K1
    · skip
      intro g42 rg42 x44 ex44
      have K0 : K01 s0 g := hI
      have K1 : K01 s0 g34 := K01_trans K0 (by first | exact K01_fr rg34 (by decide))
      have K2 : K01 s0 g42 := K01_trans K1 (by first | exact K01_fr rg42 (by decide))
      exact K2
  · intro g v66_2 rg o1 o2 hI
    refine ⟨fun h3z => ?_, fun h3z => ?_⟩
    · skip
      intro b47 eb47 eb47
      intro g56 rg56
      intro x63 o7 o8 g66 rg66
      refine ⟨fun h10z => ?_, fun h10z => ?_⟩
      · skip
        intro z
        have K0 : K01 s0 g := hI
        have K1 : K01 s0 g56 := K01_trans K0 (by first | exact K01_fr rg56 (by decide) | (rcases eb47 with z | z <;> (subst z; exact K01_fr rg56 (by decide))) | (rcases eb47 with z | z <;> (subst z; exact K01_fr rg56 (by decide))))
        have K2 : K01 s0 g66 := K01_trans K1 (by first | exact K01_fr rg66 (by decide) | (rcases eb47 with z | z <;> (subst z; exact K01_fr rg66 (by decide))) | (rcases eb47 with z | z <;> (subst z; exact K01_fr rg66 (by decide))))
        exact K2
      · skip
        intro g74 rg74 x76 ex76
        have K0 : K01 s0 g := hI
        have K1 : K01 s0 g56 := K01_trans K0 (by first | exact K01_fr rg56 (by decide) | (rcases eb47 with z | z <;> (subst z; exact K01_fr rg56 (by decide))) | (rcases eb47 with z | z <;> (subst z; exact K01_fr rg56 (by decide))))
        have K2 : K01 s0 g66 := K01_trans K1 (by first | exact K01_fr rg66 (by decide) | (rcases eb47 with z | z <;> (subst z; exact K01_fr rg66 (by decide))) | (rcases eb47 with z | z <;> (subst z; exact K01_fr rg66 (by decide))))
        have K3 : K01 s0 g74 := K01_trans K2 (by first | exact K01_fr rg74 (by decide) | (rcases eb47 with z | z <;> (subst z; exact K01_fr rg74 (by decide))) | (rcases eb47 with z | z <;> (subst z; exact K01_fr rg74 (by decide))))
        exact K3
    · skip
      intro x83 o4 o5 g86 rg86
      refine ⟨fun h7z => ?_, fun h7z => ?_⟩
      · skip
        intro z
        have K0 : K01 s0 g := hI
        have K1 : K01 s0 g86 := K01_trans K0 (by first | exact K01_fr rg86 (by decide))
        exact K1
      · skip
        intro g94 rg94 x96 ex96
        have K0 : K01 s0 g := hI
        have K1 : K01 s0 g86 := K01_trans K0 (by first | exact K01_fr rg86 (by decide))
        have K2 : K01 s0 g94 := K01_trans K1 (by first | exact K01_fr rg94 (by decide))
        exact K2
set_option maxHeartbeats 4000000 in
theorem w_1301_c0 {s0 : zF} : p_1301_c0 s0 (fun v g => v = 1 → K01 s0 g) := by
  refine ⟨fun g v2_2 => K01 s0 g, fun g v28_2 => K01 s0 g, fun g v167_2 s167_0 => K01 s0 g, ?_, ?_, ?_, ?_⟩
  · skip
    have K0 : K01 s0 s0 := K01_refl
    exact K0
  · intro g v2_2 rg o1 o2 hI
    refine ⟨fun h3z => ?_, fun h3z => ?_⟩
    · skip
      have K0 : K01 s0 g := hI
      exact K0
    · skip
      intro x7 o4 o5 g10 rg10
      refine ⟨fun h7z => ?_, fun h7z => ?_⟩
      · skip
        have K0 : K01 s0 g := hI
        have K1 : K01 s0 g10 := K01_trans K0 (by first | exact K01_fr rg10 (by decide))
        exact K1
      · skip
        intro g18 rg18 x20 ex20
        have K0 : K01 s0 g := hI
        have K1 : K01 s0 g10 := K01_trans K0 (by first | exact K01_fr rg10 (by decide))
        have K2 : K01 s0 g18 := K01_trans K1 (by first | exact K01_fr rg18 (by decide))
        exact K2
  · intro g v28_2 rg o1 o2 hI
    intro x27 o3 o4 g30 rg30
    refine ⟨fun h6z => ?_, fun h6z => ?_⟩
    · skip
      intro g38 rg38
      refine ⟨fun v g' => v = 1 → K01 g38 g', ?_, ?_⟩
      · skip
        exact w_1300_c1
      · skip
        intro x45 o8 o9 g48 rg48 qg48
        refine ⟨fun h12z => ?_, fun h12z => ?_⟩
        · skip
          intro x56 o13 o14 g59 rg59
          refine ⟨fun h16z => ?_, fun h16z => ?_⟩
          · skip
            intro g67 rg67 x69 o18 o19 ex69
            refine ⟨fun h21z => ?_, fun h21z => ?_⟩
            · skip
              intro z
              have K0 : K01 s0 g := hI
              have K1 : K01 s0 g30 := K01_trans K0 (by first | exact K01_fr rg30 (by decide))
              have K2 : K01 s0 g38 := K01_trans K1 (by first | exact K01_fr rg38 (by decide))
              have K3 : K01 s0 g48 := K01_trans K2 (qg48 (by omega))
              have K4 : K01 s0 g59 := K01_trans K3 (by first | exact K01_fr rg59 (by decide))
              have K5 : K01 s0 g67 := K01_trans K4 (by first | exact K01_fr rg67 (by decide))
              exact K5
            · skip
              intro b74 eb74 eb74
              intro g83 rg83
              intro z
              have K0 : K01 s0 g := hI
              have K1 : K01 s0 g30 := K01_trans K0 (by first | exact K01_fr rg30 (by decide) | (rcases eb74 with z | z <;> (subst z; exact K01_fr rg30 (by decide))) | (rcases eb74 with z | z <;> (subst z; exact K01_fr rg30 (by decide))))
              have K2 : K01 s0 g38 := K01_trans K1 (by first | exact K01_fr rg38 (by decide) | (rcases eb74 with z | z <;> (subst z; exact K01_fr rg38 (by decide))) | (rcases eb74 with z | z <;> (subst z; exact K01_fr rg38 (by decide))))
              have K3 : K01 s0 g48 := K01_trans K2 (qg48 (by omega))
              have K4 : K01 s0 g59 := K01_trans K3 (by first | exact K01_fr rg59 (by decide) | (rcases eb74 with z | z <;> (subst z; exact K01_fr rg59 (by decide))) | (rcases eb74 with z | z <;> (subst z; exact K01_fr rg59 (by decide))))
              have K5 : K01 s0 g67 := K01_trans K4 (by first | exact K01_fr rg67 (by decide) | (rcases eb74 with z | z <;> (subst z; exact K01_fr rg67 (by decide))) | (rcases eb74 with z | z <;> (subst z; exact K01_fr rg67 (by decide))))
              have K6 : K01 s0 g83 := K01_trans K5 (by first | exact K01_fr rg83 (by decide) | (rcases eb74 with z | z <;> (subst z; exact K01_fr rg83 (by decide))) | (rcases eb74 with z | z <;> (subst z; exact K01_fr rg83 (by decide))))
              exact K6
          · skip
            intro x90 o17 o18 g93 rg93
            intro z
            exfalso
            omega
        · skip
          intro z
          exact absurd z (by decide)
    · skip
      intro x100 o7 o8 g103 rg103
      refine ⟨fun h10z => ?_, fun h10z => ?_⟩
      · skip
        refine ⟨fun v g' => v = 1 → K01 g103 g', ?_, ?_⟩
        · skip
          exact w_1297_c0
        · skip
          intro x111 o11 o12 g114 rg114 qg114
          refine ⟨fun h15z => ?_, fun h15z => ?_⟩
          · skip
            intro x122 o16 o17 g125 rg125
            refine ⟨fun h19z => ?_, fun h19z => ?_⟩
            · skip
              have K0 : K01 s0 g := hI
              have K1 : K01 s0 g30 := K01_trans K0 (by first | exact K01_fr rg30 (by decide))
              have K2 : K01 s0 g103 := K01_trans K1 (by first | exact K01_fr rg103 (by decide))
              have K3 : K01 s0 g114 := K01_trans K2 (qg114 (by omega))
              have K4 : K01 s0 g125 := K01_trans K3 (by first | exact K01_fr rg125 (by decide))
              exact K4
            · skip
              intro x133 o20 o21 g136 rg136
              refine ⟨fun h23z => ?_, fun h23z => ?_⟩
              · skip
                have K0 : K01 s0 g := hI
                have K1 : K01 s0 g30 := K01_trans K0 (by first | exact K01_fr rg30 (by decide))
                have K2 : K01 s0 g103 := K01_trans K1 (by first | exact K01_fr rg103 (by decide))
                have K3 : K01 s0 g114 := K01_trans K2 (qg114 (by omega))
                have K4 : K01 s0 g125 := K01_trans K3 (by first | exact K01_fr rg125 (by decide))
                have K5 : K01 s0 g136 := K01_trans K4 (by first | exact K01_fr rg136 (by decide))
                exact K5
              · skip
                intro x144 o24 o25 g147 rg147
                refine ⟨fun h27z => ?_, fun h27z => ?_⟩
                · skip
                  have K0 : K01 s0 g := hI
                  have K1 : K01 s0 g30 := K01_trans K0 (by first | exact K01_fr rg30 (by decide))
                  have K2 : K01 s0 g103 := K01_trans K1 (by first | exact K01_fr rg103 (by decide))
                  have K3 : K01 s0 g114 := K01_trans K2 (qg114 (by omega))
                  have K4 : K01 s0 g125 := K01_trans K3 (by first | exact K01_fr rg125 (by decide))
                  have K5 : K01 s0 g136 := K01_trans K4 (by first | exact K01_fr rg136 (by decide))
                  have K6 : K01 s0 g147 := K01_trans K5 (by first | exact K01_fr rg147 (by decide))
                  exact K6
                · skip
                  have K0 : K01 s0 g := hI
                  have K1 : K01 s0 g30 := K01_trans K0 (by first | exact K01_fr rg30 (by decide))
                  have K2 : K01 s0 g103 := K01_trans K1 (by first | exact K01_fr rg103 (by decide))
                  have K3 : K01 s0 g114 := K01_trans K2 (qg114 (by omega))
                  have K4 : K01 s0 g125 := K01_trans K3 (by first | exact K01_fr rg125 (by decide))
                  have K5 : K01 s0 g136 := K01_trans K4 (by first | exact K01_fr rg136 (by decide))
                  have K6 : K01 s0 g147 := K01_trans K5 (by first | exact K01_fr rg147 (by decide))
                  exact K6
          · skip
            intro z
            exact absurd z (by decide)
      · skip
        intro g155 rg155 b157 eb157 eb157
        intro g166 rg166 x168 o15 o16 ex168
        refine ⟨fun h18z => ?_, fun h18z => ?_⟩
        · skip
          intro z
          have K0 : K01 s0 g := hI
          have K1 : K01 s0 g30 := K01_trans K0 (by first | exact K01_fr rg30 (by decide) | (rcases eb157 with z | z <;> (subst z; exact K01_fr rg30 (by decide))) | (rcases eb157 with z | z <;> (subst z; exact K01_fr rg30 (by decide))))
          have K2 : K01 s0 g103 := K01_trans K1 (by first | exact K01_fr rg103 (by decide) | (rcases eb157 with z | z <;> (subst z; exact K01_fr rg103 (by decide))) | (rcases eb157 with z | z <;> (subst z; exact K01_fr rg103 (by decide))))
          have K3 : K01 s0 g155 := K01_trans K2 (by first | exact K01_fr rg155 (by decide) | (rcases eb157 with z | z <;> (subst z; exact K01_fr rg155 (by decide))) | (rcases eb157 with z | z <;> (subst z; exact K01_fr rg155 (by decide))))
          have K4 : K01 s0 g166 := K01_trans K3 (by first | exact K01_fr rg166 (by decide) | (rcases eb157 with z | z <;> (subst z; exact K01_fr rg166 (by decide))) | (rcases eb157 with z | z <;> (subst z; exact K01_fr rg166 (by decide))))
          exact K4
        · skip
          intro g179 rg179
          intro z
          have K0 : K01 s0 g := hI
          have K1 : K01 s0 g30 := K01_trans K0 (by first | exact K01_fr rg30 (by decide) | (rcases eb157 with z | z <;> (subst z; exact K01_fr rg30 (by decide))) | (rcases eb157 with z | z <;> (subst z; exact K01_fr rg30 (by decide))))
          have K2 : K01 s0 g103 := K01_trans K1 (by first | exact K01_fr rg103 (by decide) | (rcases eb157 with z | z <;> (subst z; exact K01_fr rg103 (by decide))) | (rcases eb157 with z | z <;> (subst z; exact K01_fr rg103 (by decide))))
          have K3 : K01 s0 g155 := K01_trans K2 (by first | exact K01_fr rg155 (by decide) | (rcases eb157 with z | z <;> (subst z; exact K01_fr rg155 (by decide))) | (rcases eb157 with z | z <;> (subst z; exact K01_fr rg155 (by decide))))
          have K4 : K01 s0 g166 := K01_trans K3 (by first | exact K01_fr rg166 (by decide) | (rcases eb157 with z | z <;> (subst z; exact K01_fr rg166 (by decide))) | (rcases eb157 with z | z <;> (subst z; exact K01_fr rg166 (by decide))))
          have K5 : K01 s0 g179 := K01_trans K4 (by first | exact K01_fr rg179 (by decide) | (rcases eb157 with z | z <;> (subst z; exact K01_fr rg179 (by decide))) | (rcases eb157 with z | z <;> (subst z; exact K01_fr rg179 (by decide))))
          exact K5
  · intro g v167_2 s167_0 rg o1 o2 o3 o4 hI
    refine ⟨fun h5z => ?_, fun h5z => ?_⟩
    · skip
      intro g187 rg187
      refine ⟨fun v g' => v = 1 → K01 g187 g', ?_, ?_⟩
      · skip
        exact w_1297_c0
      · skip
        intro x194 o7 o8 g197 rg197 qg197
        refine ⟨fun h11z => ?_, fun h11z => ?_⟩
        · skip
          intro b200 eb200 eb200
          intro g209 rg209 x211 o15 o16 ex211
          refine ⟨fun h18z => ?_, fun h18z => ?_⟩
          · skip
            intro z
            have K0 : K01 s0 g := hI
            have K1 : K01 s0 g187 := K01_trans K0 (by first | exact K01_fr rg187 (by decide) | (rcases eb200 with z | z <;> (subst z; exact K01_fr rg187 (by decide))) | (rcases eb200 with z | z <;> (subst z; exact K01_fr rg187 (by decide))))
            have K2 : K01 s0 g197 := K01_trans K1 (qg197 (by omega))
            have K3 : K01 s0 g209 := K01_trans K2 (by first | exact K01_fr rg209 (by decide) | (rcases eb200 with z | z <;> (subst z; exact K01_fr rg209 (by decide))) | (rcases eb200 with z | z <;> (subst z; exact K01_fr rg209 (by decide))))
            exact K3
          · skip
            intro g222 rg222
            intro z
            have K0 : K01 s0 g := hI
            have K1 : K01 s0 g187 := K01_trans K0 (by first | exact K01_fr rg187 (by decide) | (rcases eb200 with z | z <;> (subst z; exact K01_fr rg187 (by decide))) | (rcases eb200 with z | z <;> (subst z; exact K01_fr rg187 (by decide))))
            have K2 : K01 s0 g197 := K01_trans K1 (qg197 (by omega))
            have K3 : K01 s0 g209 := K01_trans K2 (by first | exact K01_fr rg209 (by decide) | (rcases eb200 with z | z <;> (subst z; exact K01_fr rg209 (by decide))) | (rcases eb200 with z | z <;> (subst z; exact K01_fr rg209 (by decide))))
            have K4 : K01 s0 g222 := K01_trans K3 (by first | exact K01_fr rg222 (by decide) | (rcases eb200 with z | z <;> (subst z; exact K01_fr rg222 (by decide))) | (rcases eb200 with z | z <;> (subst z; exact K01_fr rg222 (by decide))))
            exact K4
        · skip
          intro z
          exact absurd z (by decide)
    · skip
      intro x229 o6 o7 g232 rg232
      intro z
      exfalso
      omega
set_option maxHeartbeats 4000000 in
theorem w_1300_c0 {s0 : zF} : p_1300_c0 s0 (fun v g => v = 1 → K01 s0 g) := by
  refine ⟨fun g v2_2 => K01 s0 g, fun g v11_2 v11_3 => K01 s0 g, fun g v44_2 v44_3 => K01 s0 g, fun g v66_2 => K01 s0 g, ?_, ?_, ?_, ?_, ?_⟩
  · skip
    have K0 : K01 s0 s0 := K01_refl
    exact K0
  · intro g v2_2 rg o1 o2 hI
    refine ⟨fun h3z => ?_, fun h3z => ?_⟩
    · skip
      intro z
      have K0 : K01 s0 g := hI
      exact K0
    · skip
      have K0 : K01 s0 g := hI
      exact K0
  · intro g v11_2 v11_3 rg o1 o2 o3 o4 hI
    refine ⟨fun h5z => ?_, fun h5z => ?_⟩
    · skip
      have K0 : K01 s0 g := hI
      exact K0
    · skip
      refine ⟨fun v g' => v = 1 → K01 g g', ?_, ?_⟩
      · skip
        exact w_1301_c0
      · skip
        intro x8 o6 o7 g11 rg11 qg11
        refine ⟨fun h10z => ?_, fun h10z => ?_⟩
        · skip
          refine ⟨fun h11z => ?_, fun h11z => ?_⟩
          · skip
            intro b15 eb15 eb15
            intro g24 rg24
            have K0 : K01 s0 g := hI
            have K1 : K01 s0 g11 := K01_trans K0 (qg11 (by omega))
            have K2 : K01 s0 g24 := K01_trans K1 (by first | exact K01_fr rg24 (by decide) | (rcases eb15 with z | z <;> (subst z; exact K01_fr rg24 (by decide))) | (rcases eb15 with z | z <;> (subst z; exact K01_fr rg24 (by decide))))
            exact K2
          · skip
            have K0 : K01 s0 g := hI
            have K1 : K01 s0 g11 := K01_trans K0 (qg11 (by omega))
            exact K1
        · skip
          intro z
          exact absurd z (by decide)
  · intro g v44_2 v44_3 rg o1 o2 o3 o4 hI
    intro x31 o5 o6 g34 rg34
    refine ⟨fun h8z => ?_, fun h8z => ?_⟩
    · skip
      have K0 : K01 s0 g := hI
      have K1 : K01 s0 g34 := K01_trans K0 (by first | exact K01_fr rg34 (by decide))
      exact K1
    · skip
      intro g42 rg42 x44 ex44
      have K0 : K01 s0 g := hI
      have K1 : K01 s0 g34 := K01_trans K0 (by first | exact K01_fr rg34 (by decide))
      have K2 : K01 s0 g42 := K01_trans K1 (by first | exact K01_fr rg42 (by decide))
      exact K2
  · intro g v66_2 rg o1 o2 hI
    refine ⟨fun h3z => ?_, fun h3z => ?_⟩
    · skip
      intro b47 eb47 eb47
      intro g56 rg56
      intro x63 o7 o8 g66 rg66
      refine ⟨fun h10z => ?_, fun h10z => ?_⟩
      · skip
        intro z
        have K0 : K01 s0 g := hI
        have K1 : K01 s0 g56 := K01_trans K0 (by first | exact K01_fr rg56 (by decide) | (rcases eb47 with z | z <;> (subst z; exact K01_fr rg56 (by decide))) | (rcases eb47 with z | z <;> (subst z; exact K01_fr rg56 (by decide))))
        have K2 : K01 s0 g66 := K01_trans K1 (by first | exact K01_fr rg66 (by decide) | (rcases eb47 with z | z <;> (subst z; exact K01_fr rg66 (by decide))) | (rcases eb47 with z | z <;> (subst z; exact K01_fr rg66 (by decide))))
        exact K2
      · skip
        intro g74 rg74 x76 ex76
        have K0 : K01 s0 g := hI
        have K1 : K01 s0 g56 := K01_trans K0 (by first | exact K01_fr rg56 (by decide) | (rcases eb47 with z | z <;> (subst z; exact K01_fr rg56 (by decide))) | (rcases eb47 with z | z <;> (subst z; exact K01_fr rg56 (by decide))))
        have K2 : K01 s0 g66 := K01_trans K1 (by first | exact K01_fr rg66 (by decide) | (rcases eb47 with z | z <;> (subst z; exact K01_fr rg66 (by decide))) | (rcases eb47 with z | z <;> (subst z; exact K01_fr rg66 (by decide))))
        have K3 : K01 s0 g74 := K01_trans K2 (by first | exact K01_fr rg74 (by decide) | (rcases eb47 with z | z <;> (subst z; exact K01_fr rg74 (by decide))) | (rcases eb47 with z | z <;> (subst z; exact K01_fr rg74 (by decide))))
        exact K3
    · skip
      intro x83 o4 o5 g86 rg86
      refine ⟨fun h7z => ?_, fun h7z => ?_⟩
      · skip
        intro z
        have K0 : K01 s0 g := hI
        have K1 : K01 s0 g86 := K01_trans K0 (by first | exact K01_fr rg86 (by decide))
        exact K1
      · skip
        intro g94 rg94 x96 ex96
        have K0 : K01 s0 g := hI
        have K1 : K01 s0 g86 := K01_trans K0 (by first | exact K01_fr rg86 (by decide))
        have K2 : K01 s0 g94 := K01_trans K1 (by first | exact K01_fr rg94 (by decide))
        exact K2
set_option maxHeartbeats 4000000 in
theorem w_1296 {s0 : zF} {a0 : Int} : p_1296 s0 a0 (fun v g => v = 1 → K01 s0 g) := by
  unfold p_1296
  intro b1 eb1 eb1 x5 ex5 o4 o5
  refine ⟨fun h6z => ?_, fun h6z => ?_⟩
  · skip
    intro g15 rg15
    intro g23 rg23
    refine ⟨fun v g' => v = 1 → K01 g23 g', ?_, ?_⟩
    · skip
      exact w_1297_c0
    · skip
      intro x30 o9 o10 g33 rg33 qg33
      refine ⟨fun h13z => ?_, fun h13z => ?_⟩
      · skip
        refine ⟨fun v g' => v = 1 → K01 g33 g', ?_, ?_⟩
        · skip
          exact w_1291
        · skip
          intro x41 o14 o15 g44 rg44 qg44
          refine ⟨fun h18z => ?_, fun h18z => ?_⟩
          · skip
            intro g53 rg53
            refine ⟨fun v g' => v = 1 → K01 g53 g', ?_, ?_⟩
            · skip
              exact w_1300_c0
            · skip
              intro x60 o20 o21 g63 rg63 qg63
              refine ⟨fun h24z => ?_, fun h24z => ?_⟩
              · skip
                intro g72 rg72
                intro z
                have K0 : K01 s0 s0 := K01_refl
                have K1 : K01 s0 g15 := K01_trans K0 (by first | exact K01_fr rg15 (by decide) | (rcases eb1 with z | z <;> (subst z; exact K01_fr rg15 (by decide))) | (rcases eb1 with z | z <;> (subst z; exact K01_fr rg15 (by decide))))
                have K2 : K01 s0 g23 := K01_trans K1 (by first | exact K01_fr rg23 (by decide) | (rcases eb1 with z | z <;> (subst z; exact K01_fr rg23 (by decide))) | (rcases eb1 with z | z <;> (subst z; exact K01_fr rg23 (by decide))))
                have K3 : K01 s0 g33 := K01_trans K2 (qg33 (by omega))
                have K4 : K01 s0 g44 := K01_trans K3 (qg44 (by omega))
                have K5 : K01 s0 g53 := K01_trans K4 (by first | exact K01_fr rg53 (by decide) | (rcases eb1 with z | z <;> (subst z; exact K01_fr rg53 (by decide))) | (rcases eb1 with z | z <;> (subst z; exact K01_fr rg53 (by decide))))
                have K6 : K01 s0 g63 := K01_trans K5 (qg63 (by omega))
                have K7 : K01 s0 g72 := K01_trans K6 (by first | exact K01_fr rg72 (by decide) | (rcases eb1 with z | z <;> (subst z; exact K01_fr rg72 (by decide))) | (rcases eb1 with z | z <;> (subst z; exact K01_fr rg72 (by decide))))
                exact K7
              · skip
                intro z
                exact absurd z (by decide)
          · skip
            intro z
            exact absurd z (by decide)
      · skip
        intro z
        exact absurd z (by decide)
  · skip
    intro x79 o7 o8 g82 rg82
    intro z
    exfalso
    omega
set_option maxHeartbeats 4000000 in
theorem w_1281 {s0 : zF} {a1 : Int} : p_1281 s0 a1 (fun v g => v = 1 → g 2 0 = 0 ∧ g 2 1 = -1) := by
  refine ⟨fun g v30_3 => g 2 0 = 0 ∧ g 2 1 = -1, ?_, ?_⟩
  · skip
    intro b348 eb348 eb348
    intro g357 rg357 g363 eg363 g368 eg368 g373 eg373
    intro g379 rg379
    refine ⟨?_, ?_⟩
    · rw [rg379.s (by decide), eg373, zup_ne (Or.inr (by decide)), eg368, zup_ne (Or.inr (by decide)), eg363, zup_eq]
    · rw [rg379.s (by decide), eg373, zup_ne (Or.inr (by decide)), eg368, zup_eq]
  · intro g v30_3 rg o1 o2 hI
    intro x1 ex1 o4 o5 x8 ex8 o7 o8
    refine ⟨fun h9z => ?_, fun h9z => ?_⟩
    · skip
      refine ⟨fun h10z => ?_, fun h10z => ?_⟩
      · skip
        intro x16 o11 o12 g19 rg19
        refine ⟨fun h14z => ?_, fun h14z => ?_⟩
        · skip
          refine ⟨fun v g' => v = 1 → K01 g19 g', ?_, ?_⟩
          · skip
            exact w_1288
          · skip
            intro x27 o15 o16 g30 rg30 qg30
            refine ⟨fun h19z => ?_, fun h19z => ?_⟩
            · skip
              intro x38 o20 o21 g41 rg41
              refine ⟨fun h23z => ?_, fun h23z => ?_⟩
              · skip
                intro g49 rg49 x51 ex51
                have K0 : K01 g g := K01_refl
                have K1 : K01 g g19 := K01_trans K0 (by first | exact K01_fr rg19 (by decide))
                have K2 : K01 g g30 := K01_trans K1 (qg30 (by omega))
                have K3 : K01 g g41 := K01_trans K2 (by first | exact K01_fr rg41 (by decide))
                have K4 : K01 g g49 := K01_trans K3 (by first | exact K01_fr rg49 (by decide))
                exact ⟨K4.1.trans hI.1, K4.2.trans hI.2⟩
              · skip
                intro x58 o24 o25 g61 rg61
                intro z
                exfalso
                omega
            · skip
              intro z
              exact absurd z (by decide)
        · skip
          refine ⟨fun h15z => ?_, fun h15z => ?_⟩
          · skip
            intro x69 o16 o17 g72 rg72
            intro z
            exact absurd z (by decide)
          · skip
            refine ⟨fun h16z => ?_, fun h16z => ?_⟩
            · skip
              intro x80 o17 o18 g83 rg83
              intro z
              exact absurd z (by decide)
            · skip
              refine ⟨fun h17z => ?_, fun h17z => ?_⟩
              · skip
                intro x91 o18 o19 g94 rg94
                intro z
                exact absurd z (by decide)
              · skip
                refine ⟨fun h18z => ?_, fun h18z => ?_⟩
                · skip
                  intro x102 o19 o20 g105 rg105
                  intro z
                  exact absurd z (by decide)
                · skip
                  refine ⟨fun h19z => ?_, fun h19z => ?_⟩
                  · skip
                    refine ⟨fun v g' => v = 1 → K01 g19 g', ?_, ?_⟩
                    · skip
                      exact w_1294
                    · skip
                      intro x113 o20 o21 g116 rg116 qg116
                      refine ⟨fun h24z => ?_, fun h24z => ?_⟩
                      · skip
                        intro x124 o25 o26 g127 rg127
                        refine ⟨fun h28z => ?_, fun h28z => ?_⟩
                        · skip
                          intro g135 rg135 x137 ex137
                          have K0 : K01 g g := K01_refl
                          have K1 : K01 g g19 := K01_trans K0 (by first | exact K01_fr rg19 (by decide))
                          have K2 : K01 g g116 := K01_trans K1 (qg116 (by omega))
                          have K3 : K01 g g127 := K01_trans K2 (by first | exact K01_fr rg127 (by decide))
                          have K4 : K01 g g135 := K01_trans K3 (by first | exact K01_fr rg135 (by decide))
                          exact ⟨K4.1.trans hI.1, K4.2.trans hI.2⟩
                        · skip
                          intro x144 o29 o30 g147 rg147
                          intro z
                          exfalso
                          omega
                      · skip
                        intro z
                        exact absurd z (by decide)
                  · skip
                    refine ⟨fun h20z => ?_, fun h20z => ?_⟩
                    · skip
                      intro x155 o21 o22 g158 rg158
                      intro z
                      exact absurd z (by decide)
                    · skip
                      refine ⟨fun h21z => ?_, fun h21z => ?_⟩
                      · skip
                        refine ⟨fun v g' => v = 1 → K01 g19 g', ?_, ?_⟩
                        · skip
                          exact w_1295
                        · skip
                          intro x166 o22 o23 g169 rg169 qg169
                          refine ⟨fun h26z => ?_, fun h26z => ?_⟩
                          · skip
                            intro x177 o27 o28 g180 rg180
                            refine ⟨fun h30z => ?_, fun h30z => ?_⟩
                            · skip
                              intro g188 rg188 x190 ex190
                              have K0 : K01 g g := K01_refl
                              have K1 : K01 g g19 := K01_trans K0 (by first | exact K01_fr rg19 (by decide))
                              have K2 : K01 g g169 := K01_trans K1 (qg169 (by omega))
                              have K3 : K01 g g180 := K01_trans K2 (by first | exact K01_fr rg180 (by decide))
                              have K4 : K01 g g188 := K01_trans K3 (by first | exact K01_fr rg188 (by decide))
                              exact ⟨K4.1.trans hI.1, K4.2.trans hI.2⟩
                            · skip
                              intro x197 o31 o32 g200 rg200
                              intro z
                              exfalso
                              omega
                          · skip
                            intro z
                            exact absurd z (by decide)
                      · skip
                        refine ⟨fun h22z => ?_, fun h22z => ?_⟩
                        · skip
                          intro x208 o23 o24 g211 rg211
                          intro z
                          exact absurd z (by decide)
                        · skip
                          refine ⟨fun h23z => ?_, fun h23z => ?_⟩
                          · skip
                            intro x219 o24 o25 g222 rg222
                            intro z
                            exact absurd z (by decide)
                          · skip
                            refine ⟨fun h24z => ?_, fun h24z => ?_⟩
                            · skip
                              intro x230 o25 o26 g233 rg233
                              intro z
                              exact absurd z (by decide)
                            · skip
                              refine ⟨fun h25z => ?_, fun h25z => ?_⟩
                              · skip
                                refine ⟨fun v g' => v = 1 → K01 g19 g', ?_, ?_⟩
                                · skip
                                  exact w_1296
                                · skip
                                  intro x241 o26 o27 g244 rg244 qg244
                                  refine ⟨fun h30z => ?_, fun h30z => ?_⟩
                                  · skip
                                    intro x252 o31 o32 g255 rg255
                                    refine ⟨fun h34z => ?_, fun h34z => ?_⟩
                                    · skip
                                      intro g263 rg263 x265 ex265
                                      have K0 : K01 g g := K01_refl
                                      have K1 : K01 g g19 := K01_trans K0 (by first | exact K01_fr rg19 (by decide))
                                      have K2 : K01 g g244 := K01_trans K1 (qg244 (by omega))
                                      have K3 : K01 g g255 := K01_trans K2 (by first | exact K01_fr rg255 (by decide))
                                      have K4 : K01 g g263 := K01_trans K3 (by first | exact K01_fr rg263 (by decide))
                                      exact ⟨K4.1.trans hI.1, K4.2.trans hI.2⟩
                                    · skip
                                      intro x272 o35 o36 g275 rg275
                                      intro z
                                      exfalso
                                      omega
                                  · skip
                                    intro z
                                    exact absurd z (by decide)
                              · skip
                                refine ⟨fun h26z => ?_, fun h26z => ?_⟩
                                · skip
                                  refine ⟨fun v g' => v = 1 → K01 g19 g', ?_, ?_⟩
                                  · skip
                                    exact w_1296
                                  · skip
                                    intro x283 o27 o28 g286 rg286 qg286
                                    refine ⟨fun h31z => ?_, fun h31z => ?_⟩
                                    · skip
                                      intro x294 o32 o33 g297 rg297
                                      refine ⟨fun h35z => ?_, fun h35z => ?_⟩
                                      · skip
                                        intro g305 rg305 x307 ex307
                                        have K0 : K01 g g := K01_refl
                                        have K1 : K01 g g19 := K01_trans K0 (by first | exact K01_fr rg19 (by decide))
                                        have K2 : K01 g g286 := K01_trans K1 (qg286 (by omega))
                                        have K3 : K01 g g297 := K01_trans K2 (by first | exact K01_fr rg297 (by decide))
                                        have K4 : K01 g g305 := K01_trans K3 (by first | exact K01_fr rg305 (by decide))
                                        exact ⟨K4.1.trans hI.1, K4.2.trans hI.2⟩
                                      · skip
                                        intro x314 o36 o37 g317 rg317
                                        intro z
                                        exfalso
                                        omega
                                    · skip
                                      intro z
                                      exact absurd z (by decide)
                                · skip
                                  intro x324 o27 o28 g327 rg327
                                  intro z
                                  exact absurd z (by decide)
      · skip
        intro x334 o11 o12 g337 rg337
        intro z
        exfalso
        omega
    · skip
      intro b339 eb339 eb339 g347 eg347
      intro z
      rw [eg347, zup_ne (Or.inl (by omega)), zup_ne (Or.inl (by omega))]
      exact hI
