/-! the next sign (wip/safe/vcp.py) -/
set_option maxHeartbeats 4000000 in
theorem v_2310 {s0 : zF} (h : 0 ≤ s0 386 5 ∧ s0 386 5 ≤ s0 386 2 ∧ s0 386 2 ≤ 1600 ∧ 0 ≤ s0 386 8 ∧ s0 386 8 ≤ 5) : b_2310 s0 (fun g => AP s0 g) := by
  refine ⟨fun n g v5_1 => n = (22000 + s0 386 2 - v5_1).toNat ∧ g = s0 ∧ s0 386 5 ≤ v5_1 ∧ v5_1 ≤ s0 386 2, fun n g v41_1 => n = 21000 ∧ g = s0 ∧ s0 386 5 ≤ v41_1 ∧ v41_1 ≤ s0 386 2, fun n g v85_1 v85_2 v85_3 => n = 20500 ∧ (g 386 2 = s0 386 2 ∧ g 386 4 = v85_1 ∧ g 386 8 = s0 386 8 ∧ s0 386 5 ≤ v85_1 ∧ v85_1 < s0 386 2) ∧ LD (s0 387 v85_1.toNat) v85_2 v85_3, fun n g v131_1 v131_2 v131_3 => n = 20000 ∧ (g 386 2 = s0 386 2 ∧ g 386 4 = v131_1 ∧ s0 386 8 ≤ g 386 8 ∧ g 386 8 ≤ 5 ∧ s0 386 5 ≤ v131_1 ∧ v131_1 < s0 386 2) ∧ LD (s0 387 v131_1.toNat) v131_2 v131_3 ∧ AHN s0 g v131_2, fun n g v200_1 v200_2 v200_3 v200_4 v200_5 => n = (10 * (s0 386 2 - v200_1) + 9).toNat ∧ AH200 s0 g v200_1 v200_2 v200_3 v200_4 v200_5, fun n g v252_1 v252_2 v252_3 v252_4 v252_5 => n = (10 * (s0 386 2 - v252_1) + 8).toNat ∧ AH252 s0 g v252_1 v252_2 v252_3 v252_4 v252_5 v252_5, fun n g v282_1 v282_2 v282_3 v282_4 v282_5 => n = (10 * (s0 386 2 - v282_1) + 7).toNat ∧ AH252 s0 g v282_1 v282_2 v282_3 v282_4 v282_5 (v282_5 + 1), fun n g v314_1 v314_2 v314_3 v314_4 v314_5 => n = (10 * (s0 386 2 - v314_1) + 6).toNat ∧ AH252 s0 g v314_1 v314_2 v314_3 v314_4 v314_5 (v314_5 + 1), fun n g v323_1 => n = 5 ∧ AH323 s0 g v323_1, ?_, ?_, ?_, ?_, ?_, ?_, ?_, ?_, ?_, ?_⟩
  · skip
    intro x345 ex345 fx345 gx345
    exact ⟨_, rfl, rfl, by omega, by omega⟩
  · intro n g v5_1 rg qv5_10 qv5_11 hI
    obtain ⟨hn, hg, hv, hv2⟩ := hI
    have hs2 : g 386 2 = s0 386 2 := by rw [hg]
    intro x1 ex1 fx1 gx1
    refine ⟨fun h5 => ?_, fun h5 => ?_⟩
    · skip
      intro x9 ex9 fx9 gx9
      refine ⟨fun h10 => ?_, fun h10 => ?_⟩
      · skip
        refine ⟨fun h14 => ?_, fun h14 => ?_⟩
        · skip
          exact ⟨21000, by omega, rfl, hg, by omega, by omega⟩
        · skip
          intro x15 ex15
          exact ⟨_, by omega, rfl, hg, by omega, by omega⟩
      · skip
        intro x17 ex17
        exact ⟨_, by omega, rfl, hg, by omega, by omega⟩
    · skip
      exact ⟨21000, by omega, rfl, hg, by omega, by omega⟩
  · intro n g v41_1 rg qv41_10 qv41_11 hI
    obtain ⟨hn, hg, hv, hv2⟩ := hI
    have t1 : g 387 v41_1.toNat = s0 387 v41_1.toNat := by rw [hg]
    have hs2 : g 386 2 = s0 386 2 := by rw [hg]
    have hs8 : g 386 8 = s0 386 8 := by rw [hg]
    intro g23 eg23
    intro g28 eg28
    intro g33 eg33
    intro x34 ex34 fx34 gx34
    refine ⟨fun h38 => ?_, fun h38 => ?_⟩
    · skip
      intro x42 ex42 fx42 gx42
      refine ⟨fun h43 => ?_, fun h43 => ?_⟩
      · skip
        refine ⟨fun h47 => ?_, fun h47 => ?_⟩
        · skip
          have s2 : g33 386 2 = g 386 2 := by
            rw [eg33, eg28, eg23]
            rfl
          have s4 : g33 386 4 = v41_1 := by
            rw [eg33, eg28, eg23]
            rfl
          have s8 : g33 386 8 = g 386 8 := by
            rw [eg33, eg28, eg23]
            rfl
          have a387 : g33 387 = g 387 := by
            rw [eg33, zup_na (by decide), eg28, zup_na (by decide), eg23, zup_na (by decide)]
          have t3 : g33 387 v41_1.toNat = s0 387 v41_1.toNat := by
            rw [a387]
            exact t1
          refine ⟨20500, by omega, rfl, by omega, ?_⟩
          unfold LD zLt zDg
          omega
        · skip
          refine ⟨fun h48 => ?_, fun h48 => ?_⟩
          · skip
            have s2 : g33 386 2 = g 386 2 := by
              rw [eg33, eg28, eg23]
              rfl
            have s4 : g33 386 4 = v41_1 := by
              rw [eg33, eg28, eg23]
              rfl
            have s8 : g33 386 8 = g 386 8 := by
              rw [eg33, eg28, eg23]
              rfl
            have a387 : g33 387 = g 387 := by
              rw [eg33, zup_na (by decide), eg28, zup_na (by decide), eg23, zup_na (by decide)]
            have t3 : g33 387 v41_1.toNat = s0 387 v41_1.toNat := by
              rw [a387]
              exact t1
            refine ⟨20500, by omega, rfl, by omega, ?_⟩
            unfold LD zLt zDg
            omega
          · skip
            have s2 : g33 386 2 = g 386 2 := by
              rw [eg33, eg28, eg23]
              rfl
            have s4 : g33 386 4 = v41_1 := by
              rw [eg33, eg28, eg23]
              rfl
            have s8 : g33 386 8 = g 386 8 := by
              rw [eg33, eg28, eg23]
              rfl
            have a387 : g33 387 = g 387 := by
              rw [eg33, zup_na (by decide), eg28, zup_na (by decide), eg23, zup_na (by decide)]
            have t3 : g33 387 v41_1.toNat = s0 387 v41_1.toNat := by
              rw [a387]
              exact t1
            refine ⟨20500, by omega, rfl, by omega, ?_⟩
            unfold LD zLt zDg
            omega
      · skip
        refine ⟨fun h49 => ?_, fun h49 => ?_⟩
        · skip
          have s2 : g33 386 2 = g 386 2 := by
            rw [eg33, eg28, eg23]
            rfl
          have s4 : g33 386 4 = v41_1 := by
            rw [eg33, eg28, eg23]
            rfl
          have s8 : g33 386 8 = g 386 8 := by
            rw [eg33, eg28, eg23]
            rfl
          have a387 : g33 387 = g 387 := by
            rw [eg33, zup_na (by decide), eg28, zup_na (by decide), eg23, zup_na (by decide)]
          have t3 : g33 387 v41_1.toNat = s0 387 v41_1.toNat := by
            rw [a387]
            exact t1
          refine ⟨20500, by omega, rfl, by omega, ?_⟩
          unfold LD zLt zDg
          omega
        · skip
          have s2 : g33 386 2 = g 386 2 := by
            rw [eg33, eg28, eg23]
            rfl
          have s4 : g33 386 4 = v41_1 := by
            rw [eg33, eg28, eg23]
            rfl
          have s8 : g33 386 8 = g 386 8 := by
            rw [eg33, eg28, eg23]
            rfl
          have a387 : g33 387 = g 387 := by
            rw [eg33, zup_na (by decide), eg28, zup_na (by decide), eg23, zup_na (by decide)]
          have t3 : g33 387 v41_1.toNat = s0 387 v41_1.toNat := by
            rw [a387]
            exact t1
          refine ⟨20500, by omega, rfl, by omega, ?_⟩
          unfold LD zLt zDg
          omega
    · skip
      have s2 : g33 386 2 = g 386 2 := by
        rw [eg33, eg28, eg23]
        rfl
      have s3 : g33 386 3 = 0 := by
        rw [eg33, eg28, eg23]
        rfl
      have s4 : g33 386 4 = v41_1 := by
        rw [eg33, eg28, eg23]
        rfl
      have s5 : g33 386 5 = v41_1 := by
        rw [eg33, eg28, eg23]
        rfl
      have s8 : g33 386 8 = g 386 8 := by
        rw [eg33, eg28, eg23]
        rfl
      exact A_out (by omega) (by omega) (by omega) (by omega) (by omega) (by omega) h
  · intro n g v85_1 v85_2 v85_3 rg qv85_10 qv85_11 qv85_20 qv85_21 qv85_30 qv85_31 hI
    obtain ⟨hn, hb, hl⟩ := hI
    have t2 : ∀ k, g 387 k = s0 387 k := fun k => congrFun (rg.a (a := 387) (by decide)) k
    have hl0 := hl
    unfold LD at hl0
    refine ⟨fun h56 => ?_, fun h56 => ?_⟩
    · skip
      refine ⟨fun h57 => ?_, fun h57 => ?_⟩
      · skip
        intro x58 ex58
        intro x63 ex63 fx63 gx63
        refine ⟨fun h64 => ?_, fun h64 => ?_⟩
        · skip
          intro x65 ex65
          intro x70 ex70 fx70 gx70
          refine ⟨fun h71 => ?_, fun h71 => ?_⟩
          · skip
            have s2 : g 386 2 = g 386 2 := rfl
            have s4 : g 386 4 = g 386 4 := rfl
            have s8 : g 386 8 = g 386 8 := rfl
            refine ⟨20000, by omega, rfl, by omega, hl, fun z1 z2 z3 => ?_⟩
            rw [s4, hb.2.1, show v85_1 - 1 = x65 by omega]
            have t_x58 := t2 x58.toNat
            have t_x65 := t2 x65.toNat
            have t_x65_ : s0 387 x65.toNat = s0 387 x58.toNat := by rw [show x65 = x58 by omega]
            unfold zLt
            omega
          · skip
            refine ⟨fun h72 => ?_, fun h72 => ?_⟩
            · skip
              have s2 : g 386 2 = g 386 2 := rfl
              have s4 : g 386 4 = g 386 4 := rfl
              have s8 : g 386 8 = g 386 8 := rfl
              refine ⟨20000, by omega, rfl, by omega, hl, fun z1 z2 z3 => ?_⟩
              rw [s4, hb.2.1, show v85_1 - 1 = x65 by omega]
              have t_x58 := t2 x58.toNat
              have t_x65 := t2 x65.toNat
              have t_x65_ : s0 387 x65.toNat = s0 387 x58.toNat := by rw [show x65 = x58 by omega]
              unfold zLt
              omega
            · skip
              intro x73 ex73 fx73 gx73
              refine ⟨fun h77 => ?_, fun h77 => ?_⟩
              · skip
                have s2 : g 386 2 = g 386 2 := rfl
                have s4 : g 386 4 = g 386 4 := rfl
                have s8 : g 386 8 = g 386 8 := rfl
                refine ⟨20000, by omega, rfl, by omega, hl, fun z1 z2 z3 => ?_⟩
                rw [s4, hb.2.1, show v85_1 - 1 = x65 by omega]
                have t_x58 := t2 x58.toNat
                have t_x65 := t2 x65.toNat
                have t_x65_ : s0 387 x65.toNat = s0 387 x58.toNat := by rw [show x65 = x58 by omega]
                unfold zLt
                omega
              · skip
                intro g82 eg82
                intro g87 eg87
                have s2 : g87 386 2 = g 386 2 := by
                  rw [eg87, eg82]
                  rfl
                have s4 : g87 386 4 = g 386 4 := by
                  rw [eg87, eg82]
                  rfl
                have s8 : g87 386 8 = 1 := by
                  rw [eg87, eg82]
                  rfl
                refine ⟨20000, by omega, rfl, by omega, hl, fun z1 z2 z3 => ?_⟩
                omega
        · skip
          refine ⟨fun h88 => ?_, fun h88 => ?_⟩
          · skip
            intro x89 ex89
            intro x94 ex94 fx94 gx94
            refine ⟨fun h95 => ?_, fun h95 => ?_⟩
            · skip
              have s2 : g 386 2 = g 386 2 := rfl
              have s4 : g 386 4 = g 386 4 := rfl
              have s8 : g 386 8 = g 386 8 := rfl
              refine ⟨20000, by omega, rfl, by omega, hl, fun z1 z2 z3 => ?_⟩
              rw [s4, hb.2.1, show v85_1 - 1 = x89 by omega]
              have t_x58 := t2 x58.toNat
              have t_x89 := t2 x89.toNat
              have t_x89_ : s0 387 x89.toNat = s0 387 x58.toNat := by rw [show x89 = x58 by omega]
              unfold zLt
              omega
            · skip
              refine ⟨fun h96 => ?_, fun h96 => ?_⟩
              · skip
                have s2 : g 386 2 = g 386 2 := rfl
                have s4 : g 386 4 = g 386 4 := rfl
                have s8 : g 386 8 = g 386 8 := rfl
                refine ⟨20000, by omega, rfl, by omega, hl, fun z1 z2 z3 => ?_⟩
                rw [s4, hb.2.1, show v85_1 - 1 = x89 by omega]
                have t_x58 := t2 x58.toNat
                have t_x89 := t2 x89.toNat
                have t_x89_ : s0 387 x89.toNat = s0 387 x58.toNat := by rw [show x89 = x58 by omega]
                unfold zLt
                omega
              · skip
                intro x97 ex97 fx97 gx97
                refine ⟨fun h101 => ?_, fun h101 => ?_⟩
                · skip
                  have s2 : g 386 2 = g 386 2 := rfl
                  have s4 : g 386 4 = g 386 4 := rfl
                  have s8 : g 386 8 = g 386 8 := rfl
                  refine ⟨20000, by omega, rfl, by omega, hl, fun z1 z2 z3 => ?_⟩
                  rw [s4, hb.2.1, show v85_1 - 1 = x89 by omega]
                  have t_x58 := t2 x58.toNat
                  have t_x89 := t2 x89.toNat
                  have t_x89_ : s0 387 x89.toNat = s0 387 x58.toNat := by rw [show x89 = x58 by omega]
                  unfold zLt
                  omega
                · skip
                  intro g106 eg106
                  intro g111 eg111
                  have s2 : g111 386 2 = g 386 2 := by
                    rw [eg111, eg106]
                    rfl
                  have s4 : g111 386 4 = g 386 4 := by
                    rw [eg111, eg106]
                    rfl
                  have s8 : g111 386 8 = 1 := by
                    rw [eg111, eg106]
                    rfl
                  refine ⟨20000, by omega, rfl, by omega, hl, fun z1 z2 z3 => ?_⟩
                  omega
          · skip
            intro x112 ex112 fx112 gx112
            refine ⟨fun h116 => ?_, fun h116 => ?_⟩
            · skip
              have s2 : g 386 2 = g 386 2 := rfl
              have s4 : g 386 4 = g 386 4 := rfl
              have s8 : g 386 8 = g 386 8 := rfl
              refine ⟨20000, by omega, rfl, by omega, hl, fun z1 z2 z3 => ?_⟩
              rw [s4, hb.2.1, show v85_1 - 1 = x58 by omega]
              have t_x58 := t2 x58.toNat
              unfold zLt
              omega
            · skip
              intro g121 eg121
              intro g126 eg126
              have s2 : g126 386 2 = g 386 2 := by
                rw [eg126, eg121]
                rfl
              have s4 : g126 386 4 = g 386 4 := by
                rw [eg126, eg121]
                rfl
              have s8 : g126 386 8 = 1 := by
                rw [eg126, eg121]
                rfl
              refine ⟨20000, by omega, rfl, by omega, hl, fun z1 z2 z3 => ?_⟩
              omega
      · skip
        have s2 : g 386 2 = g 386 2 := rfl
        have s4 : g 386 4 = g 386 4 := rfl
        have s8 : g 386 8 = g 386 8 := rfl
        refine ⟨20000, by omega, rfl, by omega, hl, fun z1 z2 z3 => ?_⟩
        omega
    · skip
      refine ⟨fun h127 => ?_, fun h127 => ?_⟩
      · skip
        refine ⟨fun h128 => ?_, fun h128 => ?_⟩
        · skip
          intro x129 ex129
          intro x134 ex134 fx134 gx134
          refine ⟨fun h135 => ?_, fun h135 => ?_⟩
          · skip
            intro x136 ex136
            intro x141 ex141 fx141 gx141
            refine ⟨fun h142 => ?_, fun h142 => ?_⟩
            · skip
              have s2 : g 386 2 = g 386 2 := rfl
              have s4 : g 386 4 = g 386 4 := rfl
              have s8 : g 386 8 = g 386 8 := rfl
              refine ⟨20000, by omega, rfl, by omega, hl, fun z1 z2 z3 => ?_⟩
              rw [s4, hb.2.1, show v85_1 - 1 = x136 by omega]
              have t_x129 := t2 x129.toNat
              have t_x136 := t2 x136.toNat
              have t_x136_ : s0 387 x136.toNat = s0 387 x129.toNat := by rw [show x136 = x129 by omega]
              unfold zLt
              omega
            · skip
              refine ⟨fun h143 => ?_, fun h143 => ?_⟩
              · skip
                have s2 : g 386 2 = g 386 2 := rfl
                have s4 : g 386 4 = g 386 4 := rfl
                have s8 : g 386 8 = g 386 8 := rfl
                refine ⟨20000, by omega, rfl, by omega, hl, fun z1 z2 z3 => ?_⟩
                rw [s4, hb.2.1, show v85_1 - 1 = x136 by omega]
                have t_x129 := t2 x129.toNat
                have t_x136 := t2 x136.toNat
                have t_x136_ : s0 387 x136.toNat = s0 387 x129.toNat := by rw [show x136 = x129 by omega]
                unfold zLt
                omega
              · skip
                intro x144 ex144 fx144 gx144
                refine ⟨fun h148 => ?_, fun h148 => ?_⟩
                · skip
                  have s2 : g 386 2 = g 386 2 := rfl
                  have s4 : g 386 4 = g 386 4 := rfl
                  have s8 : g 386 8 = g 386 8 := rfl
                  refine ⟨20000, by omega, rfl, by omega, hl, fun z1 z2 z3 => ?_⟩
                  rw [s4, hb.2.1, show v85_1 - 1 = x136 by omega]
                  have t_x129 := t2 x129.toNat
                  have t_x136 := t2 x136.toNat
                  have t_x136_ : s0 387 x136.toNat = s0 387 x129.toNat := by rw [show x136 = x129 by omega]
                  unfold zLt
                  omega
                · skip
                  intro g153 eg153
                  intro g158 eg158
                  have s2 : g158 386 2 = g 386 2 := by
                    rw [eg158, eg153]
                    rfl
                  have s4 : g158 386 4 = g 386 4 := by
                    rw [eg158, eg153]
                    rfl
                  have s8 : g158 386 8 = 1 := by
                    rw [eg158, eg153]
                    rfl
                  refine ⟨20000, by omega, rfl, by omega, hl, fun z1 z2 z3 => ?_⟩
                  omega
          · skip
            refine ⟨fun h159 => ?_, fun h159 => ?_⟩
            · skip
              intro x160 ex160
              intro x165 ex165 fx165 gx165
              refine ⟨fun h166 => ?_, fun h166 => ?_⟩
              · skip
                have s2 : g 386 2 = g 386 2 := rfl
                have s4 : g 386 4 = g 386 4 := rfl
                have s8 : g 386 8 = g 386 8 := rfl
                refine ⟨20000, by omega, rfl, by omega, hl, fun z1 z2 z3 => ?_⟩
                rw [s4, hb.2.1, show v85_1 - 1 = x160 by omega]
                have t_x129 := t2 x129.toNat
                have t_x160 := t2 x160.toNat
                have t_x160_ : s0 387 x160.toNat = s0 387 x129.toNat := by rw [show x160 = x129 by omega]
                unfold zLt
                omega
              · skip
                refine ⟨fun h167 => ?_, fun h167 => ?_⟩
                · skip
                  have s2 : g 386 2 = g 386 2 := rfl
                  have s4 : g 386 4 = g 386 4 := rfl
                  have s8 : g 386 8 = g 386 8 := rfl
                  refine ⟨20000, by omega, rfl, by omega, hl, fun z1 z2 z3 => ?_⟩
                  rw [s4, hb.2.1, show v85_1 - 1 = x160 by omega]
                  have t_x129 := t2 x129.toNat
                  have t_x160 := t2 x160.toNat
                  have t_x160_ : s0 387 x160.toNat = s0 387 x129.toNat := by rw [show x160 = x129 by omega]
                  unfold zLt
                  omega
                · skip
                  intro x168 ex168 fx168 gx168
                  refine ⟨fun h172 => ?_, fun h172 => ?_⟩
                  · skip
                    have s2 : g 386 2 = g 386 2 := rfl
                    have s4 : g 386 4 = g 386 4 := rfl
                    have s8 : g 386 8 = g 386 8 := rfl
                    refine ⟨20000, by omega, rfl, by omega, hl, fun z1 z2 z3 => ?_⟩
                    rw [s4, hb.2.1, show v85_1 - 1 = x160 by omega]
                    have t_x129 := t2 x129.toNat
                    have t_x160 := t2 x160.toNat
                    have t_x160_ : s0 387 x160.toNat = s0 387 x129.toNat := by rw [show x160 = x129 by omega]
                    unfold zLt
                    omega
                  · skip
                    intro g177 eg177
                    intro g182 eg182
                    have s2 : g182 386 2 = g 386 2 := by
                      rw [eg182, eg177]
                      rfl
                    have s4 : g182 386 4 = g 386 4 := by
                      rw [eg182, eg177]
                      rfl
                    have s8 : g182 386 8 = 1 := by
                      rw [eg182, eg177]
                      rfl
                    refine ⟨20000, by omega, rfl, by omega, hl, fun z1 z2 z3 => ?_⟩
                    omega
            · skip
              intro x183 ex183 fx183 gx183
              refine ⟨fun h187 => ?_, fun h187 => ?_⟩
              · skip
                have s2 : g 386 2 = g 386 2 := rfl
                have s4 : g 386 4 = g 386 4 := rfl
                have s8 : g 386 8 = g 386 8 := rfl
                refine ⟨20000, by omega, rfl, by omega, hl, fun z1 z2 z3 => ?_⟩
                rw [s4, hb.2.1, show v85_1 - 1 = x129 by omega]
                have t_x129 := t2 x129.toNat
                unfold zLt
                omega
              · skip
                intro g192 eg192
                intro g197 eg197
                have s2 : g197 386 2 = g 386 2 := by
                  rw [eg197, eg192]
                  rfl
                have s4 : g197 386 4 = g 386 4 := by
                  rw [eg197, eg192]
                  rfl
                have s8 : g197 386 8 = 1 := by
                  rw [eg197, eg192]
                  rfl
                refine ⟨20000, by omega, rfl, by omega, hl, fun z1 z2 z3 => ?_⟩
                omega
        · skip
          have s2 : g 386 2 = g 386 2 := rfl
          have s4 : g 386 4 = g 386 4 := rfl
          have s8 : g 386 8 = g 386 8 := rfl
          refine ⟨20000, by omega, rfl, by omega, hl, fun z1 z2 z3 => ?_⟩
          omega
      · skip
        have s2 : g 386 2 = g 386 2 := rfl
        have s4 : g 386 4 = g 386 4 := rfl
        have s8 : g 386 8 = g 386 8 := rfl
        refine ⟨20000, by omega, rfl, by omega, hl, fun z1 z2 z3 => ?_⟩
        omega
  · intro n g v131_1 v131_2 v131_3 rg qv131_10 qv131_11 qv131_20 qv131_21 qv131_30 qv131_31 hI
    obtain ⟨hn, hb, hl, ha⟩ := hI
    have hl0 := hl
    unfold LD at hl0
    intro g202 eg202
    intro g207 eg207
    intro g212 eg212
    intro x213 ex213
    intro g219 eg219
    refine ⟨fun h220 => ?_, fun h220 => ?_⟩
    · skip
      intro g225 eg225
      have s2 : g225 386 2 = g 386 2 := by
        rw [eg225, eg219, eg212, eg207, eg202]
        rfl
      have s3 : g225 386 3 = 1 := by
        rw [eg225, eg219, eg212, eg207, eg202]
        rfl
      have s4 : g225 386 4 = g 386 4 := by
        rw [eg225, eg219, eg212, eg207, eg202]
        rfl
      have s7 : g225 386 7 = 0 := by
        rw [eg225, eg219, eg212, eg207, eg202]
        rfl
      have s8 : g225 386 8 = g 386 8 := by
        rw [eg225, eg219, eg212, eg207, eg202]
        rfl
      refine ⟨_, ?_, rfl, A_first (by omega) hl (fun z1 z2 z3 => ?_) (by omega)⟩
      · omega
      · rw [s4] at z3 ⊢
        exact ha (by omega) z2 z3
    · skip
      refine ⟨fun h226 => ?_, fun h226 => ?_⟩
      · skip
        intro g231 eg231
        have s2 : g231 386 2 = g 386 2 := by
          rw [eg231, eg219, eg212, eg207, eg202]
          rfl
        have s3 : g231 386 3 = 2 := by
          rw [eg231, eg219, eg212, eg207, eg202]
          rfl
        have s4 : g231 386 4 = g 386 4 := by
          rw [eg231, eg219, eg212, eg207, eg202]
          rfl
        have s7 : g231 386 7 = 0 := by
          rw [eg231, eg219, eg212, eg207, eg202]
          rfl
        have s8 : g231 386 8 = g 386 8 := by
          rw [eg231, eg219, eg212, eg207, eg202]
          rfl
        refine ⟨_, ?_, rfl, A_first (by omega) hl (fun z1 z2 z3 => ?_) (by omega)⟩
        · omega
        · rw [s4] at z3 ⊢
          exact ha (by omega) z2 z3
      · skip
        intro x235 ex235 fx235 gx235
        intro g240 eg240
        have s2 : g240 386 2 = g 386 2 := by
          rw [eg240, eg219, eg212, eg207, eg202]
          rfl
        have s3 : g240 386 3 = 3 := by
          rw [eg240, eg219, eg212, eg207, eg202]
          rfl
        have s4 : g240 386 4 = g 386 4 := by
          rw [eg240, eg219, eg212, eg207, eg202]
          rfl
        have s5 : g240 386 5 = x213 := by
          rw [eg240, eg219, eg212, eg207, eg202]
          rfl
        have s8 : g240 386 8 = g 386 8 := by
          rw [eg240, eg219, eg212, eg207, eg202]
          rfl
        exact A_sign (by omega) (by omega) (by omega) (by omega) (by omega) (by omega) h
  · intro n g v200_1 v200_2 v200_3 v200_4 v200_5 rg qv200_10 qv200_11 qv200_20 qv200_21 qv200_30 qv200_31 qv200_40 qv200_41 qv200_50 hI
    obtain ⟨hn, ha⟩ := hI
    have t1 : g 387 v200_1.toNat = s0 387 v200_1.toNat := congrFun (rg.a (a := 387) (by decide)) _
    have hb := ha.1.1
    have hb2 := ha.1.2.1
    intro x241 ex241 fx241 gx241
    refine ⟨fun h245 => ?_, fun h245 => ?_⟩
    · skip
      refine ⟨fun h246 => ?_, fun h246 => ?_⟩
      · skip
        intro x250 ex250 fx250 gx250
        refine ⟨fun h251 => ?_, fun h251 => ?_⟩
        · skip
          exact ⟨5, by omega, rfl, A_323 ha (by omega) (by omega)⟩
        · skip
          refine ⟨fun h252 => ?_, fun h252 => ?_⟩
          · skip
            exact ⟨5, by omega, rfl, A_323 ha (by omega) (by omega)⟩
          · skip
            refine ⟨fun h253 => ?_, fun h253 => ?_⟩
            · skip
              exact ⟨_, by omega, rfl, A_252 ha (by omega) (fun _ => by omega)⟩
            · skip
              intro x254 ex254 fx254 gx254
              refine ⟨fun h258 => ?_, fun h258 => ?_⟩
              · skip
                exact ⟨_, by omega, rfl, A_252 ha (by omega) (fun _ => by omega)⟩
              · skip
                intro g263 eg263
                intro g268 eg268
                have s2 : g268 386 2 = g 386 2 := by
                  rw [eg268, eg263]
                  rfl
                have s3 : g268 386 3 = g 386 3 := by
                  rw [eg268, eg263]
                  rfl
                have s4 : g268 386 4 = g 386 4 := by
                  rw [eg268, eg263]
                  rfl
                have s7 : g268 386 7 = g 386 7 := by
                  rw [eg268, eg263]
                  rfl
                have s8 : g268 386 8 = 1 := by
                  rw [eg268, eg263]
                  rfl
                refine ⟨_, ?_, rfl, A_252b (A_252 ha (by omega) (fun _ => by omega)) s2 s3 s4 s7 s8 (by omega)⟩
                omega
      · skip
        intro x272 ex272 fx272 gx272
        refine ⟨fun h273 => ?_, fun h273 => ?_⟩
        · skip
          exact ⟨5, by omega, rfl, A_323 ha (by omega) (by omega)⟩
        · skip
          refine ⟨fun h274 => ?_, fun h274 => ?_⟩
          · skip
            exact ⟨5, by omega, rfl, A_323 ha (by omega) (by omega)⟩
          · skip
            refine ⟨fun h275 => ?_, fun h275 => ?_⟩
            · skip
              exact ⟨_, by omega, rfl, A_252 ha (by omega) (fun _ => by omega)⟩
            · skip
              intro x276 ex276 fx276 gx276
              refine ⟨fun h280 => ?_, fun h280 => ?_⟩
              · skip
                exact ⟨_, by omega, rfl, A_252 ha (by omega) (fun _ => by omega)⟩
              · skip
                intro g285 eg285
                intro g290 eg290
                have s2 : g290 386 2 = g 386 2 := by
                  rw [eg290, eg285]
                  rfl
                have s3 : g290 386 3 = g 386 3 := by
                  rw [eg290, eg285]
                  rfl
                have s4 : g290 386 4 = g 386 4 := by
                  rw [eg290, eg285]
                  rfl
                have s7 : g290 386 7 = g 386 7 := by
                  rw [eg290, eg285]
                  rfl
                have s8 : g290 386 8 = 1 := by
                  rw [eg290, eg285]
                  rfl
                refine ⟨_, ?_, rfl, A_252b (A_252 ha (by omega) (fun _ => by omega)) s2 s3 s4 s7 s8 (by omega)⟩
                omega
    · skip
      exact ⟨5, by omega, rfl, A_323 ha (by omega) (by omega)⟩
  · intro n g v252_1 v252_2 v252_3 v252_4 v252_5 rg qv252_10 qv252_11 qv252_20 qv252_21 qv252_30 qv252_31 qv252_40 qv252_41 qv252_50 hI
    obtain ⟨hn, ha⟩ := hI
    have t1 : g 387 v252_1.toNat = s0 387 v252_1.toNat := congrFun (rg.a (a := 387) (by decide)) _
    have hb := ha.1.1
    have hb2 := ha.1.2.1
    unfold wb at hb2
    refine ⟨fun h291 => ?_, fun h291 => ?_⟩
    · skip
      refine ⟨fun h292 => ?_, fun h292 => ?_⟩
      · skip
        intro y296 ey296
        have oh297 : (0 ≤ y296 ∧ y296 ≤ 36028797018963967) := by
          omega
        refine ⟨oh297, ?_⟩
        intro y298 ey298
        intro x303 ex303 fx303 gx303
        intro y304 ey304
        have oh306 : (0 ≤ y298 ∧ y298 % 256 = 0 ∧ 0 ≤ y304 ∧ y304 < 256) := by
          omega
        refine ⟨oh306, ?_⟩
        intro y307 ey307
        intro g313 eg313
        have s2 : g313 386 2 = g 386 2 := by
          rw [eg313]
          rfl
        have s3 : g313 386 3 = g 386 3 := by
          rw [eg313]
          rfl
        have s4 : g313 386 4 = g 386 4 := by
          rw [eg313]
          rfl
        have s7 : g313 386 7 = y307 := by
          rw [eg313]
          rfl
        have s8 : g313 386 8 = g 386 8 := by
          rw [eg313]
          rfl
        refine ⟨_, ?_, rfl, A_282 (y := y304) ha (by omega) (by omega) s2 s3 s4 (by omega) s8 (by omega)⟩
        omega
      · skip
        exact ⟨_, by omega, rfl, A_282n ha (by omega)⟩
    · skip
      exact ⟨_, by omega, rfl, A_282n ha (by omega)⟩
  · intro n g v282_1 v282_2 v282_3 v282_4 v282_5 rg qv282_10 qv282_11 qv282_20 qv282_21 qv282_30 qv282_31 qv282_40 qv282_41 qv282_50 hI
    obtain ⟨hn, ha⟩ := hI
    have t1 : g 387 v282_1.toNat = s0 387 v282_1.toNat := congrFun (rg.a (a := 387) (by decide)) _
    have hb := ha.1.1
    have hb2 := ha.1.2.1
    refine ⟨fun h314 => ?_, fun h314 => ?_⟩
    · skip
      refine ⟨fun h315 => ?_, fun h315 => ?_⟩
      · skip
        intro x316 ex316
        intro x321 ex321
        intro x325 ex325 fx325 gx325
        intro x327 ex327
        intro x329 ex329
        intro g334 eg334
        have s2 : g334 386 2 = g 386 2 := by
          rw [eg334]
          rfl
        have s3 : g334 386 3 = g 386 3 := by
          rw [eg334]
          rfl
        have s4 : g334 386 4 = g 386 4 := by
          rw [eg334]
          rfl
        have s7 : g334 386 7 = g 386 7 := by
          rw [eg334]
          rfl
        have s8 : g334 386 8 = g 386 8 := by
          rw [eg334]
          rfl
        exact ⟨_, by omega, rfl, A_val ha s2 s3 s4 s7 s8⟩
      · skip
        exact ⟨_, by omega, rfl, ha⟩
    · skip
      exact ⟨_, by omega, rfl, ha⟩
  · intro n g v314_1 v314_2 v314_3 v314_4 v314_5 rg qv314_10 qv314_11 qv314_20 qv314_21 qv314_30 qv314_31 qv314_40 qv314_41 qv314_50 hI
    obtain ⟨hn, ha⟩ := hI
    have t1 : g 387 v314_1.toNat = s0 387 v314_1.toNat := congrFun (rg.a (a := 387) (by decide)) _
    have hb := ha.1.1
    have hb2 := ha.1.2.1
    have oh335 : (v314_5 ≤ 2147483646) := by
      omega
    refine ⟨oh335, ?_⟩
    intro x336 ex336
    intro x338 ex338
    exact ⟨_, by omega, rfl, A_200 ha (by omega) (by omega)⟩
  · intro n g v323_1 rg qv323_10 qv323_11 hI
    obtain ⟨hn, ha⟩ := hI
    intro g344 eg344
    have s2 : g344 386 2 = g 386 2 := by
      rw [eg344]
      rfl
    have s3 : g344 386 3 = g 386 3 := by
      rw [eg344]
      rfl
    have s4 : g344 386 4 = g 386 4 := by
      rw [eg344]
      rfl
    have s5 : g344 386 5 = v323_1 := by
      rw [eg344]
      rfl
    have s7 : g344 386 7 = g 386 7 := by
      rw [eg344]
      rfl
    have s8 : g344 386 8 = g 386 8 := by
      rw [eg344]
      rfl
    exact A_end ha s2 s3 s4 s5 s7 s8 (by
      rw [eg344, zup_na (by decide)]
      exact rg.a (by decide))
