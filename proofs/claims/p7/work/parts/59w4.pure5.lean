/-! pure proofs of the class (wip/safe/gen35.py) -/
set_option maxHeartbeats 4000000 in
theorem v_2110 {s0 : zF} (h : CI s0) : b_2110 s0 (fun _ g => OI g) := by
  refine ⟨fun n g v50_2 => n = (200 - v50_2).toNat ∧ OI g ∧ IMGC g, fun n g v192_2 => n = (100 - v192_2).toNat ∧ OI g, ?_, ?_, ?_⟩
  · skip
    intro x297 ex297 fx297 gx297
    intro g305 eg305
    refine ⟨fun v g' => g' = g305 ∧ (v = 1 → IMGC g305), ?_, ?_⟩
    · skip
      exact v_2111
    · skip
      intro x311 hx3111 hx3112 g314 rg314 qg314
      refine ⟨fun h316 => ?_, fun h316 => ?_⟩
      · skip
        intro b317 eb317 fb317
        refine ⟨fun g' => g' 49 0 = g314 b317 1, ?_, ?_⟩
        · skip
          exact v_1537
        · skip
          intro g326 rg326 qg326
          refine ⟨fun _ g' => g' = g326, ?_, ?_⟩
          · skip
            exact v_2091 (by omega) (by omega)
          · skip
            intro x333 hx3331 hx3332 g336 rg336 qg336
            intro g342 eg342
            obtain ⟨q1, q2⟩ : g314 = g305 ∧ (_ → IMGC g305) := qg314
            have hi1 : IMGC g305 := q2 (by omega)
            have C1 : CI g305 := by
              rw [eg305]
              exact h.ups (by decide)
            have C2 : CI g314 := by
              rw [q1]
              exact C1
            have q3 : g326 49 0 = g314 b317 1 := qg326
            have C3 : CI g326 := C2.begin rg326 (by decide) eb317 q3
            have n3 : g326 49 0 = g305 49 0 := by
              rw [q3, ← q1, C2.2.1, ← eb317]
              rfl
            have t3 : g326 1 = g305 1 := by
              rw [rg326.a (a := 1) (by decide), q1]
            have O3 : OI g326 := ⟨C3, by rw [rg326.s (a := 0) (k := 1) (by decide), q1, eg305, zup_eq]⟩
            have q4 : g336 = g326 := qg336
            have O5 : OI g342 := by
              rw [eg342, q4]
              exact O3.ups (by decide) (by decide)
            have I5 : IMGC g342 := by
              rw [eg342, q4]
              exact hi1.of ((zup_na (by decide)).trans t3) ((zup_ne (Or.inr (by decide))).trans n3)
            exact ⟨_, rfl, O5, I5⟩
      · skip
        intro g346 rg346 
        obtain ⟨q1, q2⟩ : g314 = g305 ∧ (_ → IMGC g305) := qg314
        have O1 : OI g305 := by
          rw [eg305]
          exact ⟨h.ups (by decide), zup_eq⟩
        have O2 : OI g314 := by
          rw [q1]
          exact O1
        exact O2.fr rg346 (by decide) (by decide)
  · intro n g v50_2 rg qv50_20 qv50_21 hI
    obtain ⟨hn, hoi, hi⟩ := hI
    intro x1 ex1 fx1 gx1
    refine ⟨fun h5 => ?_, fun h5 => ?_⟩
    · skip
      intro x6 ex6
      intro x8 ex8
      refine ⟨fun v g' => g' = g ∧ v = g 1 (x8 : Int).toNat, ?_, ?_⟩
      · skip
        exact v_2092
      · skip
        intro x15 hx151 hx152 g18 rg18 qg18
        have oh20 : (x15 ≤ 11) := by
          have T0 : g 1 = g 1 ∧ g 49 0 = g 49 0 := ⟨rfl, rfl⟩
          have w : x15 = g 1 (x8 : Int).toNat := (qg18 : _ ∧ x15 = _).2
          rw [T0.1, show x8 = 2 + 7 * v50_2 by omega] at w
          have ii := hi v50_2 (by omega) (by omega)
          omega
        refine ⟨oh20, ?_⟩
        intro g25 eg25
        intro x26 ex26
        refine ⟨fun v g' => g' = g25 ∧ v = g25 1 (x26 : Int).toNat, ?_, ?_⟩
        · skip
          exact v_2092
        · skip
          intro x33 hx331 hx332 g36 rg36 qg36
          refine ⟨fun h38 => ?_, fun h38 => ?_⟩
          · skip
            intro g43 eg43
            intro x44 ex44
            refine ⟨fun v g' => g' = g43 ∧ v = g43 1 (x44 : Int).toNat, ?_, ?_⟩
            · skip
              exact v_2092
            · skip
              intro x51 hx511 hx512 g54 rg54 qg54
              intro x56 ex56
              have oh58 : (x56 ≤ 5) := by
                have T0 : g 1 = g 1 ∧ g 49 0 = g 49 0 := ⟨rfl, rfl⟩
                have T1 : g18 1 = g 1 ∧ g18 49 0 = g 49 0 := by
                  rw [(qg18 : g18 = g ∧ _).1]
                  exact T0
                have T2 : g25 1 = g 1 ∧ g25 49 0 = g 49 0 := by
                  rw [eg25]
                  exact ⟨(zup_na (by decide)).trans T1.1, (zup_ne (Or.inl (by decide))).trans T1.2⟩
                have T3 : g36 1 = g 1 ∧ g36 49 0 = g 49 0 := by
                  rw [(qg36 : g36 = g25 ∧ _).1]
                  exact T2
                have T4 : g43 1 = g 1 ∧ g43 49 0 = g 49 0 := by
                  rw [eg43]
                  exact ⟨(zup_na (by decide)).trans T3.1, (zup_ne (Or.inl (by decide))).trans T3.2⟩
                have w : x51 = g43 1 (x44 : Int).toNat := (qg54 : _ ∧ x51 = _).2
                rw [T4.1, show x44 = 2 + 7 * v50_2 + 2 by omega] at w
                have ii := hi v50_2 (by omega) (by omega)
                omega
              refine ⟨oh58, ?_⟩
              intro g63 eg63
              intro x64 ex64
              refine ⟨fun v g' => g' = g63 ∧ v = g63 1 (x64 : Int).toNat, ?_, ?_⟩
              · skip
                exact v_2092
              · skip
                intro x71 hx711 hx712 g74 rg74 qg74
                intro g80 eg80
                intro x81 ex81
                refine ⟨fun v g' => g' = g80 ∧ v = g80 1 (x81 : Int).toNat, ?_, ?_⟩
                · skip
                  exact v_2092
                · skip
                  intro x88 hx881 hx882 g91 rg91 qg91
                  intro x93 ex93
                  have oh95 : (x93 ≤ 5) := by
                    have T0 : g 1 = g 1 ∧ g 49 0 = g 49 0 := ⟨rfl, rfl⟩
                    have T1 : g18 1 = g 1 ∧ g18 49 0 = g 49 0 := by
                      rw [(qg18 : g18 = g ∧ _).1]
                      exact T0
                    have T2 : g25 1 = g 1 ∧ g25 49 0 = g 49 0 := by
                      rw [eg25]
                      exact ⟨(zup_na (by decide)).trans T1.1, (zup_ne (Or.inl (by decide))).trans T1.2⟩
                    have T3 : g36 1 = g 1 ∧ g36 49 0 = g 49 0 := by
                      rw [(qg36 : g36 = g25 ∧ _).1]
                      exact T2
                    have T4 : g43 1 = g 1 ∧ g43 49 0 = g 49 0 := by
                      rw [eg43]
                      exact ⟨(zup_na (by decide)).trans T3.1, (zup_ne (Or.inl (by decide))).trans T3.2⟩
                    have T5 : g54 1 = g 1 ∧ g54 49 0 = g 49 0 := by
                      rw [(qg54 : g54 = g43 ∧ _).1]
                      exact T4
                    have T6 : g63 1 = g 1 ∧ g63 49 0 = g 49 0 := by
                      rw [eg63]
                      exact ⟨(zup_na (by decide)).trans T5.1, (zup_ne (Or.inl (by decide))).trans T5.2⟩
                    have T7 : g74 1 = g 1 ∧ g74 49 0 = g 49 0 := by
                      rw [(qg74 : g74 = g63 ∧ _).1]
                      exact T6
                    have T8 : g80 1 = g 1 ∧ g80 49 0 = g 49 0 := by
                      rw [eg80]
                      exact ⟨(zup_na (by decide)).trans T7.1, (zup_ne (Or.inl (by decide))).trans T7.2⟩
                    have w : x88 = g80 1 (x81 : Int).toNat := (qg91 : _ ∧ x88 = _).2
                    rw [T8.1, show x81 = 2 + 7 * v50_2 + 4 by omega] at w
                    have ii := hi v50_2 (by omega) (by omega)
                    omega
                  refine ⟨oh95, ?_⟩
                  intro g100 eg100
                  intro x101 ex101
                  refine ⟨fun _ g' => g' = g100, ?_, ?_⟩
                  · skip
                    exact v_2091 (by omega) (by omega)
                  · skip
                    intro x108 hx1081 hx1082 g111 rg111 qg111
                    intro g117 eg117
                    intro x118 ex118
                    have O0 : OI g := hoi
                    have O1 : OI g18 := by
                      rw [(qg18 : g18 = g ∧ _).1]
                      exact O0
                    have O2 : OI g25 := by
                      rw [eg25]
                      exact O1.upa (by decide) (by decide)
                    have O3 : OI g36 := by
                      rw [(qg36 : g36 = g25 ∧ _).1]
                      exact O2
                    have O4 : OI g43 := by
                      rw [eg43]
                      exact O3.upa (by decide) (by decide)
                    have O5 : OI g54 := by
                      rw [(qg54 : g54 = g43 ∧ _).1]
                      exact O4
                    have O6 : OI g63 := by
                      rw [eg63]
                      exact O5.upa (by decide) (by decide)
                    have O7 : OI g74 := by
                      rw [(qg74 : g74 = g63 ∧ _).1]
                      exact O6
                    have O8 : OI g80 := by
                      rw [eg80]
                      exact O7.upa (by decide) (by decide)
                    have O9 : OI g91 := by
                      rw [(qg91 : g91 = g80 ∧ _).1]
                      exact O8
                    have O10 : OI g100 := by
                      rw [eg100]
                      exact O9.upa (by decide) (by decide)
                    have O11 : OI g111 := by
                      rw [(qg111 : g111 = g100)]
                      exact O10
                    have O12 : OI g117 := by
                      rw [eg117]
                      exact O11.upa (by decide) (by decide)
                    have T0 : g 1 = g 1 ∧ g 49 0 = g 49 0 := ⟨rfl, rfl⟩
                    have T1 : g18 1 = g 1 ∧ g18 49 0 = g 49 0 := by
                      rw [(qg18 : g18 = g ∧ _).1]
                      exact T0
                    have T2 : g25 1 = g 1 ∧ g25 49 0 = g 49 0 := by
                      rw [eg25]
                      exact ⟨(zup_na (by decide)).trans T1.1, (zup_ne (Or.inl (by decide))).trans T1.2⟩
                    have T3 : g36 1 = g 1 ∧ g36 49 0 = g 49 0 := by
                      rw [(qg36 : g36 = g25 ∧ _).1]
                      exact T2
                    have T4 : g43 1 = g 1 ∧ g43 49 0 = g 49 0 := by
                      rw [eg43]
                      exact ⟨(zup_na (by decide)).trans T3.1, (zup_ne (Or.inl (by decide))).trans T3.2⟩
                    have T5 : g54 1 = g 1 ∧ g54 49 0 = g 49 0 := by
                      rw [(qg54 : g54 = g43 ∧ _).1]
                      exact T4
                    have T6 : g63 1 = g 1 ∧ g63 49 0 = g 49 0 := by
                      rw [eg63]
                      exact ⟨(zup_na (by decide)).trans T5.1, (zup_ne (Or.inl (by decide))).trans T5.2⟩
                    have T7 : g74 1 = g 1 ∧ g74 49 0 = g 49 0 := by
                      rw [(qg74 : g74 = g63 ∧ _).1]
                      exact T6
                    have T8 : g80 1 = g 1 ∧ g80 49 0 = g 49 0 := by
                      rw [eg80]
                      exact ⟨(zup_na (by decide)).trans T7.1, (zup_ne (Or.inl (by decide))).trans T7.2⟩
                    have T9 : g91 1 = g 1 ∧ g91 49 0 = g 49 0 := by
                      rw [(qg91 : g91 = g80 ∧ _).1]
                      exact T8
                    have T10 : g100 1 = g 1 ∧ g100 49 0 = g 49 0 := by
                      rw [eg100]
                      exact ⟨(zup_na (by decide)).trans T9.1, (zup_ne (Or.inl (by decide))).trans T9.2⟩
                    have T11 : g111 1 = g 1 ∧ g111 49 0 = g 49 0 := by
                      rw [(qg111 : g111 = g100)]
                      exact T10
                    have T12 : g117 1 = g 1 ∧ g117 49 0 = g 49 0 := by
                      rw [eg117]
                      exact ⟨(zup_na (by decide)).trans T11.1, (zup_ne (Or.inl (by decide))).trans T11.2⟩
                    exact ⟨_, by omega, rfl, O12, hi.of T12.1 T12.2⟩
          · skip
            intro g124 eg124
            intro x125 ex125
            refine ⟨fun v g' => g' = g124 ∧ v = g124 1 (x125 : Int).toNat, ?_, ?_⟩
            · skip
              exact v_2092
            · skip
              intro x132 hx1321 hx1322 g135 rg135 qg135
              intro x137 ex137
              have oh139 : (x137 ≤ 5) := by
                have T0 : g 1 = g 1 ∧ g 49 0 = g 49 0 := ⟨rfl, rfl⟩
                have T1 : g18 1 = g 1 ∧ g18 49 0 = g 49 0 := by
                  rw [(qg18 : g18 = g ∧ _).1]
                  exact T0
                have T2 : g25 1 = g 1 ∧ g25 49 0 = g 49 0 := by
                  rw [eg25]
                  exact ⟨(zup_na (by decide)).trans T1.1, (zup_ne (Or.inl (by decide))).trans T1.2⟩
                have T3 : g36 1 = g 1 ∧ g36 49 0 = g 49 0 := by
                  rw [(qg36 : g36 = g25 ∧ _).1]
                  exact T2
                have T4 : g124 1 = g 1 ∧ g124 49 0 = g 49 0 := by
                  rw [eg124]
                  exact ⟨(zup_na (by decide)).trans T3.1, (zup_ne (Or.inl (by decide))).trans T3.2⟩
                have w : x132 = g124 1 (x125 : Int).toNat := (qg135 : _ ∧ x132 = _).2
                rw [T4.1, show x125 = 2 + 7 * v50_2 + 2 by omega] at w
                have ii := hi v50_2 (by omega) (by omega)
                omega
              refine ⟨oh139, ?_⟩
              intro g144 eg144
              intro x145 ex145
              refine ⟨fun v g' => g' = g144 ∧ v = g144 1 (x145 : Int).toNat, ?_, ?_⟩
              · skip
                exact v_2092
              · skip
                intro x152 hx1521 hx1522 g155 rg155 qg155
                intro g161 eg161
                intro x162 ex162
                refine ⟨fun v g' => g' = g161 ∧ v = g161 1 (x162 : Int).toNat, ?_, ?_⟩
                · skip
                  exact v_2092
                · skip
                  intro x169 hx1691 hx1692 g172 rg172 qg172
                  intro x174 ex174
                  have oh176 : (x174 ≤ 5) := by
                    have T0 : g 1 = g 1 ∧ g 49 0 = g 49 0 := ⟨rfl, rfl⟩
                    have T1 : g18 1 = g 1 ∧ g18 49 0 = g 49 0 := by
                      rw [(qg18 : g18 = g ∧ _).1]
                      exact T0
                    have T2 : g25 1 = g 1 ∧ g25 49 0 = g 49 0 := by
                      rw [eg25]
                      exact ⟨(zup_na (by decide)).trans T1.1, (zup_ne (Or.inl (by decide))).trans T1.2⟩
                    have T3 : g36 1 = g 1 ∧ g36 49 0 = g 49 0 := by
                      rw [(qg36 : g36 = g25 ∧ _).1]
                      exact T2
                    have T4 : g124 1 = g 1 ∧ g124 49 0 = g 49 0 := by
                      rw [eg124]
                      exact ⟨(zup_na (by decide)).trans T3.1, (zup_ne (Or.inl (by decide))).trans T3.2⟩
                    have T5 : g135 1 = g 1 ∧ g135 49 0 = g 49 0 := by
                      rw [(qg135 : g135 = g124 ∧ _).1]
                      exact T4
                    have T6 : g144 1 = g 1 ∧ g144 49 0 = g 49 0 := by
                      rw [eg144]
                      exact ⟨(zup_na (by decide)).trans T5.1, (zup_ne (Or.inl (by decide))).trans T5.2⟩
                    have T7 : g155 1 = g 1 ∧ g155 49 0 = g 49 0 := by
                      rw [(qg155 : g155 = g144 ∧ _).1]
                      exact T6
                    have T8 : g161 1 = g 1 ∧ g161 49 0 = g 49 0 := by
                      rw [eg161]
                      exact ⟨(zup_na (by decide)).trans T7.1, (zup_ne (Or.inl (by decide))).trans T7.2⟩
                    have w : x169 = g161 1 (x162 : Int).toNat := (qg172 : _ ∧ x169 = _).2
                    rw [T8.1, show x162 = 2 + 7 * v50_2 + 4 by omega] at w
                    have ii := hi v50_2 (by omega) (by omega)
                    omega
                  refine ⟨oh176, ?_⟩
                  intro g181 eg181
                  intro x182 ex182
                  refine ⟨fun _ g' => g' = g181, ?_, ?_⟩
                  · skip
                    exact v_2091 (by omega) (by omega)
                  · skip
                    intro x189 hx1891 hx1892 g192 rg192 qg192
                    intro g198 eg198
                    intro x199 ex199
                    have O0 : OI g := hoi
                    have O1 : OI g18 := by
                      rw [(qg18 : g18 = g ∧ _).1]
                      exact O0
                    have O2 : OI g25 := by
                      rw [eg25]
                      exact O1.upa (by decide) (by decide)
                    have O3 : OI g36 := by
                      rw [(qg36 : g36 = g25 ∧ _).1]
                      exact O2
                    have O4 : OI g124 := by
                      rw [eg124]
                      exact O3.upa (by decide) (by decide)
                    have O5 : OI g135 := by
                      rw [(qg135 : g135 = g124 ∧ _).1]
                      exact O4
                    have O6 : OI g144 := by
                      rw [eg144]
                      exact O5.upa (by decide) (by decide)
                    have O7 : OI g155 := by
                      rw [(qg155 : g155 = g144 ∧ _).1]
                      exact O6
                    have O8 : OI g161 := by
                      rw [eg161]
                      exact O7.upa (by decide) (by decide)
                    have O9 : OI g172 := by
                      rw [(qg172 : g172 = g161 ∧ _).1]
                      exact O8
                    have O10 : OI g181 := by
                      rw [eg181]
                      exact O9.upa (by decide) (by decide)
                    have O11 : OI g192 := by
                      rw [(qg192 : g192 = g181)]
                      exact O10
                    have O12 : OI g198 := by
                      rw [eg198]
                      exact O11.upa (by decide) (by decide)
                    have T0 : g 1 = g 1 ∧ g 49 0 = g 49 0 := ⟨rfl, rfl⟩
                    have T1 : g18 1 = g 1 ∧ g18 49 0 = g 49 0 := by
                      rw [(qg18 : g18 = g ∧ _).1]
                      exact T0
                    have T2 : g25 1 = g 1 ∧ g25 49 0 = g 49 0 := by
                      rw [eg25]
                      exact ⟨(zup_na (by decide)).trans T1.1, (zup_ne (Or.inl (by decide))).trans T1.2⟩
                    have T3 : g36 1 = g 1 ∧ g36 49 0 = g 49 0 := by
                      rw [(qg36 : g36 = g25 ∧ _).1]
                      exact T2
                    have T4 : g124 1 = g 1 ∧ g124 49 0 = g 49 0 := by
                      rw [eg124]
                      exact ⟨(zup_na (by decide)).trans T3.1, (zup_ne (Or.inl (by decide))).trans T3.2⟩
                    have T5 : g135 1 = g 1 ∧ g135 49 0 = g 49 0 := by
                      rw [(qg135 : g135 = g124 ∧ _).1]
                      exact T4
                    have T6 : g144 1 = g 1 ∧ g144 49 0 = g 49 0 := by
                      rw [eg144]
                      exact ⟨(zup_na (by decide)).trans T5.1, (zup_ne (Or.inl (by decide))).trans T5.2⟩
                    have T7 : g155 1 = g 1 ∧ g155 49 0 = g 49 0 := by
                      rw [(qg155 : g155 = g144 ∧ _).1]
                      exact T6
                    have T8 : g161 1 = g 1 ∧ g161 49 0 = g 49 0 := by
                      rw [eg161]
                      exact ⟨(zup_na (by decide)).trans T7.1, (zup_ne (Or.inl (by decide))).trans T7.2⟩
                    have T9 : g172 1 = g 1 ∧ g172 49 0 = g 49 0 := by
                      rw [(qg172 : g172 = g161 ∧ _).1]
                      exact T8
                    have T10 : g181 1 = g 1 ∧ g181 49 0 = g 49 0 := by
                      rw [eg181]
                      exact ⟨(zup_na (by decide)).trans T9.1, (zup_ne (Or.inl (by decide))).trans T9.2⟩
                    have T11 : g192 1 = g 1 ∧ g192 49 0 = g 49 0 := by
                      rw [(qg192 : g192 = g181)]
                      exact T10
                    have T12 : g198 1 = g 1 ∧ g198 49 0 = g 49 0 := by
                      rw [eg198]
                      exact ⟨(zup_na (by decide)).trans T11.1, (zup_ne (Or.inl (by decide))).trans T11.2⟩
                    exact ⟨_, by omega, rfl, O12, hi.of T12.1 T12.2⟩
    · skip
      exact ⟨_, by omega, rfl, hoi⟩
  · intro n g v192_2 rg qv192_20 qv192_21 hI
    obtain ⟨hn, hoi⟩ := hI
    intro x201 ex201 fx201 gx201
    intro x205 ex205
    refine ⟨fun h207 => ?_, fun h207 => ?_⟩
    · skip
      intro x208 ex208
      intro x210 ex210
      intro x212 ex212
      intro x214 ex214
      refine ⟨fun v g' => g' = g ∧ v = g 1 (x214 : Int).toNat, ?_, ?_⟩
      · skip
        exact v_2092
      · skip
        intro x221 hx2211 hx2212 g224 rg224 qg224
        refine ⟨fun h226 => ?_, fun h226 => ?_⟩
        · skip
          intro g231 eg231
          intro x232 ex232
          refine ⟨fun v g' => g' = g231 ∧ v = g231 1 (x232 : Int).toNat, ?_, ?_⟩
          · skip
            exact v_2092
          · skip
            intro x239 hx2391 hx2392 g242 rg242 qg242
            intro g248 eg248
            intro x249 ex249
            have O0 : OI g := hoi
            have O1 : OI g224 := by
              rw [(qg224 : g224 = g ∧ _).1]
              exact O0
            have O2 : OI g231 := by
              rw [eg231]
              exact O1.upa (by decide) (by decide)
            have O3 : OI g242 := by
              rw [(qg242 : g242 = g231 ∧ _).1]
              exact O2
            have O4 : OI g248 := by
              rw [eg248]
              exact O3.upa (by decide) (by decide)
            exact ⟨_, by omega, rfl, O4⟩
        · skip
          intro g255 eg255
          intro x256 ex256
          refine ⟨fun v g' => g' = g255 ∧ v = g255 1 (x256 : Int).toNat, ?_, ?_⟩
          · skip
            exact v_2092
          · skip
            intro x263 hx2631 hx2632 g266 rg266 qg266
            intro g272 eg272
            intro x273 ex273
            have O0 : OI g := hoi
            have O1 : OI g224 := by
              rw [(qg224 : g224 = g ∧ _).1]
              exact O0
            have O2 : OI g255 := by
              rw [eg255]
              exact O1.upa (by decide) (by decide)
            have O3 : OI g266 := by
              rw [(qg266 : g266 = g255 ∧ _).1]
              exact O2
            have O4 : OI g272 := by
              rw [eg272]
              exact O3.upa (by decide) (by decide)
            exact ⟨_, by omega, rfl, O4⟩
    · skip
      refine ⟨fun g' => g' = zup g 77 0 0, ?_, ?_⟩
      · skip
        exact v_1
      · skip
        intro g280 rg280 qg280
        intro g286 eg286
        intro x287 ex287
        intro x291 
        intro g296 eg296
        have O0 : OI g := hoi
        have O1 : OI g280 := by
          rw [(qg280 : g280 = zup g 77 0 0)]
          exact O0.forget
        have O2 : OI g286 := by
          rw [eg286]
          exact O1.ups (by decide) (by decide)
        have O3 : OI g296 := by
          rw [eg296]
          exact O2.ups (by decide) (by decide)
        exact O3
