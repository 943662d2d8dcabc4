/-! pure proofs (wip/safe/vcp.py) -/
set_option maxHeartbeats 4000000 in
theorem v_2334 {c0 a0 : Int} {s0 : zF} (hs : RI c0 0 s0) (hbg : s0 411 (s0 386 41 - 1).toNat ≠ 1) (hk1 : a0 = 2 ∨ a0 = 3 ∨ a0 = 5) (h3 : s0 386 8 = 0 → 1 ≤ s0 386 3) : b_2334 s0 a0 (fun g => OpP c0 a0 s0 g) := by
  have hd := hs.dn
  have hz := hs.1.sz
  unfold b_2334
  intro x1 ex1 fx1 gx1
  refine ⟨fun h5 => ?_, fun h5 => ?_⟩
  · skip
    intro x6 ex6 fx6 gx6
    refine ⟨fun h10 => ?_, fun h10 => ?_⟩
    · skip
      exact T_openF hs (by omega)
    · skip
      intro x11 ex11
      intro g17 eg17
      refine ⟨fun g' => AP g17 g', ?_, ?_⟩
      · skip
        rw [eg17]
        exact v_2310 (SG.ap hs.1)
      · skip
        intro g23 rg23 qg23
        refine ⟨fun g' => g' = puF g23 a0, ?_, ?_⟩
        · skip
          have h41 : g23 386 41 = g17 386 41 := rg23.s (by decide)
          have h41b : g17 386 41 = s0 386 41 := by
            rw [eg17]
            rfl
          exact v_2329 (by omega) (by omega) rfl
        · skip
          intro g30 rg30 qg30
          have e1 : g17 = zup s0 386 42 (s0 386 42 + 1) := by
            rw [eg17]
            congr 1
            omega
          have e3 : g30 = puF g23 a0 := qg30
          have a2 : AP g17 g23 := qg23
          have f2 := rg23
          rw [e1] at a2 f2
          rw [e3]
          exact T_opens hs (by omega) (h3 (by omega)) hbg (by omega) hk1 a2 f2
  · skip
    intro x32 ex32 fx32 gx32
    intro x36 ex36 fx36 gx36
    refine ⟨fun h40 => ?_, fun h40 => ?_⟩
    · skip
      exact T_openF hs (by omega)
    · skip
      intro g45 eg45
      intro g50 eg50
      have e2 : g50 = blF s0 5 x32 := by
        rw [eg50, eg45]
        rfl
      rw [e2]
      exact T_openB hs (by omega)
set_option maxHeartbeats 4000000 in
theorem v_2330 {c0 : Int} {s0 : zF} (hs : RI c0 0 s0) (hk : s0 386 8 = 0) : b_2330 s0 (fun v g => OP c0 s0 v g) := by
  have hd := hs.dn
  have hz := hs.1.sz
  refine ⟨fun n g v34_1 v34_2 => n = 966 ∧ g = s0 ∧ v34_1 = s0 386 41 - 1 ∧ (v34_2 = 1 → s0 411 v34_1.toNat = 1), fun n g v60_1 v60_2 => n = 940 ∧ g = s0 ∧ v60_1 = s0 386 41 - 1, fun n g v87_1 v87_2 => n = 913 ∧ g = zup s0 411 (s0 386 41 - 1).toNat 0 ∧ v87_1 = s0 386 41 - 1, fun n g  => n = 879 ∧ g = zup s0 411 (s0 386 41 - 1).toNat 0, fun n g  => n = 863 ∧ g = zup s0 411 (s0 386 41 - 1).toNat 0, fun n g  => n = 843 ∧ g = zup s0 411 (s0 386 41 - 1).toNat 0 ∧ s0 386 3 = 1, fun n g v175_3 => n = 825 ∧ g = zup s0 411 (s0 386 41 - 1).toNat 0 ∧ s0 386 3 = 1 ∧ (v175_3 = 15 ∨ v175_3 = 16), fun n g v197_3 => n = 803 ∧ RI c0 0 g ∧ CS c0 s0 g ∧ PG s0 g ∧ PW s0 g ∧ g 411 (g 386 41 - 1).toNat ≠ 1 ∧ (g 386 8 = 0 → 1 ≤ g 386 3) ∧ (v197_3 = 15 ∨ v197_3 = 16), fun n g  => n = 777 ∧ g = zup s0 411 (s0 386 41 - 1).toNat 0, fun n g v337_3 => n = 663 ∧ g = zup s0 411 (s0 386 41 - 1).toNat 0 ∧ (v337_3 = -1 ∨ 0 ≤ v337_3 ∧ v337_3 ≤ 9 ∧ 1 ≤ s0 386 3), ?_, ?_, ?_, ?_, ?_, ?_, ?_, ?_, ?_, ?_, ?_⟩
  · skip
    intro x382 ex382 fx382 gx382
    intro x386 ex386
    have oh388 : (0 ≤ x386) := by
      omega
    refine ⟨oh388, ?_⟩
    intro x392 ex392 fx392 gx392
    refine ⟨fun h393 => ?_, fun h393 => ?_⟩
    · skip
      refine ⟨fun h394 => ?_, fun h394 => ?_⟩
      · skip
        exact ⟨966, rfl, rfl, by omega, fun z => by omega⟩
      · skip
        intro x398 ex398 fx398 gx398
        refine ⟨fun h399 => ?_, fun h399 => ?_⟩
        · skip
          exact ⟨966, rfl, rfl, by omega, fun z => by omega⟩
        · skip
          exact ⟨966, rfl, rfl, by omega, fun z => by omega⟩
    · skip
      intro x403 ex403 fx403 gx403
      refine ⟨fun h404 => ?_, fun h404 => ?_⟩
      · skip
        exact ⟨966, rfl, rfl, by omega, fun z => by omega⟩
      · skip
        exact ⟨966, rfl, rfl, by omega, fun z => by omega⟩
  · intro n g v34_1 v34_2 rg qv34_10 qv34_11 qv34_20 qv34_21 hI
    obtain ⟨hn, hg, hv, hb⟩ := hI
    have hsg : RI c0 0 g := by
      rw [hg]
      exact hs
    have hkg : g 386 8 = 0 := by
      rw [hg]
      exact hk
    have hN := hsg.n hkg
    refine ⟨fun h1 => ?_, fun h1 => ?_⟩
    · skip
      intro x2 ex2 fx2 gx2
      refine ⟨fun h6 => ?_, fun h6 => ?_⟩
      · skip
        exact ⟨940, by omega, rfl, hg, hv⟩
      · skip
        intro y10 ey10
        intro x11 ex11
        refine ⟨fun h13 => ?_, fun h13 => ?_⟩
        · skip
          exact ⟨940, by omega, rfl, hg, hv⟩
        · skip
          refine ⟨fun g' => g' = hbF g 22, ?_, ?_⟩
          · skip
            exact v_2332 (by omega) (by omega) rfl
          · skip
            intro g19 rg19 qg19
            refine ⟨fun g' => AP g19 g', ?_, ?_⟩
            · skip
              have e1 : g19 = hbF g 22 := qg19
              rw [e1]
              exact v_2310 (SG.ap hsg.1)
            · skip
              intro g26 rg26 qg26
              have e1 : g19 = hbF g 22 := qg19
              have a2 : AP g19 g26 := qg26
              have f2 := rg26
              rw [e1] at a2 f2
              show OP c0 s0 0 g26
              rw [← hg]
              exact T_not hsg hkg (by omega) (by omega) (by rw [hg, ← hv]; exact hb (by omega)) a2 f2
    · skip
      exact ⟨940, by omega, rfl, hg, hv⟩
  · intro n g v60_1 v60_2 rg qv60_10 qv60_11 qv60_20 qv60_21 hI
    obtain ⟨hn, hg, hv⟩ := hI
    have hsg : RI c0 0 g := by
      rw [hg]
      exact hs
    have hkg : g 386 8 = 0 := by
      rw [hg]
      exact hk
    have hN := hsg.n hkg
    intro g32 eg32
    refine ⟨fun h33 => ?_, fun h33 => ?_⟩
    · skip
      intro x34 ex34 fx34 gx34
      refine ⟨fun h38 => ?_, fun h38 => ?_⟩
      · skip
        exact ⟨913, by omega, rfl, by rw [eg32, hg, hv], hv⟩
      · skip
        intro x39 ex39
        refine ⟨fun h43 => ?_, fun h43 => ?_⟩
        · skip
          exact ⟨913, by omega, rfl, by rw [eg32, hg, hv], hv⟩
        · skip
          refine ⟨fun g' => OpP c0 5 g32 g', ?_, ?_⟩
          · skip
            have hgg : g32 = zup s0 411 (s0 386 41 - 1).toNat 0 := by
              rw [eg32, hg, hv]
            exact v_2334 (by rw [hgg]; exact zbgF hs (Int.le_refl _)) (by rw [hgg]; exact zbgF2) (by decide) (fun _ => by omega)
          · skip
            intro g49 rg49 qg49
            have hgg : g32 = zup s0 411 (s0 386 41 - 1).toNat 0 := by
              rw [eg32, hg, hv]
            exact OpP.op qg49 (by rw [hgg]; exact ⟨rfl, rfl, rfl, rfl, rfl, rfl, rfl, zup_na (by decide)⟩) (by rw [hgg]; exact zup_na (by decide)) (by decide)
    · skip
      exact ⟨913, by omega, rfl, by rw [eg32, hg, hv], hv⟩
  · intro n g v87_1 v87_2 rg qv87_10 qv87_11 qv87_20 qv87_21 hI
    obtain ⟨hn, hg, hv⟩ := hI
    have hr : RI c0 0 g := by
      rw [hg]
      exact zbgF hs (Int.le_refl _)
    have hbg : g 411 (g 386 41 - 1).toNat ≠ 1 := by
      rw [hg]
      exact zbgF2
    have hkg : g 386 8 = 0 := by
      rw [hg]
      exact hk
    have h3 : g 386 3 = s0 386 3 := by
      rw [hg]
      rfl
    have ks : KS s0 g := by
      rw [hg]
      exact ⟨rfl, rfl, rfl, rfl, rfl, rfl, rfl, zup_na (by decide)⟩
    have e7 : g 407 = s0 407 := by
      rw [hg]
      exact zup_na (by decide)
    have hdg := hr.dn
    have hzg := hr.1.sz
    refine ⟨fun h51 => ?_, fun h51 => ?_⟩
    · skip
      intro x52 ex52 fx52 gx52
      refine ⟨fun h56 => ?_, fun h56 => ?_⟩
      · skip
        exact ⟨879, by omega, rfl, hg⟩
      · skip
        intro y60 ey60
        intro x61 ex61
        refine ⟨fun h63 => ?_, fun h63 => ?_⟩
        · skip
          exact ⟨879, by omega, rfl, hg⟩
        · skip
          refine ⟨fun g' => g' = addF g 9 0, ?_, ?_⟩
          · skip
            have hlt := hr.1.lt (by omega)
            exact v_2335 (by omega) (by omega) rfl
          · skip
            intro g69 rg69 qg69
            intro g75 eg75
            refine ⟨fun g' => AP g75 g', ?_, ?_⟩
            · skip
              have e1 : g69 = addF g 9 0 := qg69
              rw [eg75, e1]
              exact v_2310 (SG.ap hr.1)
            · skip
              intro g81 rg81 qg81
              have e1 : g69 = addF g 9 0 := qg69
              have e2 : g75 = zup (addF (zup s0 411 (s0 386 41 - 1).toNat 0) 9 0) 410 (s0 386 41 - 1).toNat 2 := by
                rw [eg75, e1, hg, hv]
              have a3 : AP g75 g81 := qg81
              have f3 := rg81
              rw [e2] at a3 f3
              exact T_opndA hs hk (by omega) (by decide) a3 f3
    · skip
      exact ⟨879, by omega, rfl, hg⟩
  · intro n g  rg  hI
    obtain ⟨hn, hg⟩ := hI
    have hr : RI c0 0 g := by
      rw [hg]
      exact zbgF hs (Int.le_refl _)
    have hbg : g 411 (g 386 41 - 1).toNat ≠ 1 := by
      rw [hg]
      exact zbgF2
    have hkg : g 386 8 = 0 := by
      rw [hg]
      exact hk
    have h3 : g 386 3 = s0 386 3 := by
      rw [hg]
      rfl
    have ks : KS s0 g := by
      rw [hg]
      exact ⟨rfl, rfl, rfl, rfl, rfl, rfl, rfl, zup_na (by decide)⟩
    have e7 : g 407 = s0 407 := by
      rw [hg]
      exact zup_na (by decide)
    have hdg := hr.dn
    have hzg := hr.1.sz
    intro x83 ex83 fx83 gx83
    refine ⟨fun h87 => ?_, fun h87 => ?_⟩
    · skip
      exact ⟨863, by omega, rfl, hg⟩
    · skip
      intro x88 ex88
      refine ⟨fun h92 => ?_, fun h92 => ?_⟩
      · skip
        exact ⟨863, by omega, rfl, hg⟩
      · skip
        refine ⟨fun g' => OpP c0 2 g g', ?_, ?_⟩
        · skip
          exact v_2334 hr hbg (by decide) (fun _ => by omega)
        · skip
          intro g98 rg98 qg98
          exact OpP.op qg98 ks e7 (by decide)
  · intro n g  rg  hI
    obtain ⟨hn, hg⟩ := hI
    have hr : RI c0 0 g := by
      rw [hg]
      exact zbgF hs (Int.le_refl _)
    have hbg : g 411 (g 386 41 - 1).toNat ≠ 1 := by
      rw [hg]
      exact zbgF2
    have hkg : g 386 8 = 0 := by
      rw [hg]
      exact hk
    have h3 : g 386 3 = s0 386 3 := by
      rw [hg]
      rfl
    have ks : KS s0 g := by
      rw [hg]
      exact ⟨rfl, rfl, rfl, rfl, rfl, rfl, rfl, zup_na (by decide)⟩
    have e7 : g 407 = s0 407 := by
      rw [hg]
      exact zup_na (by decide)
    have hdg := hr.dn
    have hzg := hr.1.sz
    intro x100 ex100 fx100 gx100
    refine ⟨fun h104 => ?_, fun h104 => ?_⟩
    · skip
      refine ⟨fun h105 => ?_, fun h105 => ?_⟩
      · skip
        exact ⟨777, by omega, rfl, hg⟩
      · skip
        intro y109 ey109
        intro x110 ex110
        refine ⟨fun h112 => ?_, fun h112 => ?_⟩
        · skip
          exact ⟨777, by omega, rfl, hg⟩
        · skip
          exact ⟨843, by omega, rfl, hg, by omega⟩
    · skip
      intro y116 ey116
      intro x117 ex117
      refine ⟨fun h119 => ?_, fun h119 => ?_⟩
      · skip
        intro x120 ex120
        refine ⟨fun h122 => ?_, fun h122 => ?_⟩
        · skip
          exact ⟨777, by omega, rfl, hg⟩
        · skip
          exact ⟨843, by omega, rfl, hg, by omega⟩
      · skip
        exact ⟨843, by omega, rfl, hg, by omega⟩
  · intro n g  rg  hI
    obtain ⟨hn, hg, h31⟩ := hI
    have hr : RI c0 0 g := by
      rw [hg]
      exact zbgF hs (Int.le_refl _)
    have hbg : g 411 (g 386 41 - 1).toNat ≠ 1 := by
      rw [hg]
      exact zbgF2
    have hkg : g 386 8 = 0 := by
      rw [hg]
      exact hk
    have h3 : g 386 3 = s0 386 3 := by
      rw [hg]
      rfl
    have ks : KS s0 g := by
      rw [hg]
      exact ⟨rfl, rfl, rfl, rfl, rfl, rfl, rfl, zup_na (by decide)⟩
    have e7 : g 407 = s0 407 := by
      rw [hg]
      exact zup_na (by decide)
    have hdg := hr.dn
    have hzg := hr.1.sz
    intro x123 ex123 fx123 gx123
    refine ⟨fun h127 => ?_, fun h127 => ?_⟩
    · skip
      exact ⟨825, by omega, rfl, hg, h31, by omega⟩
    · skip
      intro y131 ey131
      intro x132 ex132
      refine ⟨fun h134 => ?_, fun h134 => ?_⟩
      · skip
        exact ⟨825, by omega, rfl, hg, h31, by omega⟩
      · skip
        exact ⟨825, by omega, rfl, hg, h31, by omega⟩
  · intro n g v175_3 rg qv175_30 qv175_31 hI
    obtain ⟨hn, hg, h31, hw⟩ := hI
    have hr : RI c0 0 g := by
      rw [hg]
      exact zbgF hs (Int.le_refl _)
    have hbg : g 411 (g 386 41 - 1).toNat ≠ 1 := by
      rw [hg]
      exact zbgF2
    have hkg : g 386 8 = 0 := by
      rw [hg]
      exact hk
    have h3 : g 386 3 = s0 386 3 := by
      rw [hg]
      rfl
    have ks : KS s0 g := by
      rw [hg]
      exact ⟨rfl, rfl, rfl, rfl, rfl, rfl, rfl, zup_na (by decide)⟩
    have e7 : g 407 = s0 407 := by
      rw [hg]
      exact zup_na (by decide)
    have hdg := hr.dn
    have hzg := hr.1.sz
    refine ⟨fun g' => AP g g', ?_, ?_⟩
    · skip
      exact v_2310 (SG.ap hr.1)
    · skip
      intro g140 rg140 qg140
      intro x142 ex142 fx142 gx142
      refine ⟨fun h146 => ?_, fun h146 => ?_⟩
      · skip
        intro x147 ex147 fx147 gx147
        intro x151 ex151 fx151 gx151
        refine ⟨fun h155 => ?_, fun h155 => ?_⟩
        · skip
          have a1 : AP g g140 := qg140
          have f1 := rg140
          rw [hg] at a1 f1
          obtain ⟨m1, m2, m3, m4, m5⟩ := T_mm hs h31 a1 f1
          exact ⟨803, by omega, rfl, m1, m2, m3, m4, m5, fun z => by omega, hw⟩
        · skip
          intro g160 eg160
          intro g165 eg165
          have a1 : AP g g140 := qg140
          have f1 := rg140
          rw [hg] at a1 f1
          obtain ⟨m1, m2, m3, m4, m5⟩ := T_mm hs h31 a1 f1
          have e3 : g165 = blF g140 1 x147 := by
            rw [eg165, eg160]
            rfl
          rw [e3]
          obtain ⟨b1, b2, b3, b4, b5⟩ := T_mmB (x := x147) m1 m2 m3 m4 m5 (by have := m1.1.sz; omega) (by omega)
          exact ⟨803, by omega, rfl, b1, b2, b3, b4, b5, fun z => absurd (show (1 : Int) = 0 from z) (by decide), hw⟩
      · skip
        intro x166 ex166
        refine ⟨fun h170 => ?_, fun h170 => ?_⟩
        · skip
          intro x171 ex171 fx171 gx171
          intro x175 ex175 fx175 gx175
          refine ⟨fun h179 => ?_, fun h179 => ?_⟩
          · skip
            have a1 : AP g g140 := qg140
            have f1 := rg140
            rw [hg] at a1 f1
            obtain ⟨m1, m2, m3, m4, m5⟩ := T_mm hs h31 a1 f1
            exact ⟨803, by omega, rfl, m1, m2, m3, m4, m5, fun z => by omega, hw⟩
          · skip
            intro g184 eg184
            intro g189 eg189
            have a1 : AP g g140 := qg140
            have f1 := rg140
            rw [hg] at a1 f1
            obtain ⟨m1, m2, m3, m4, m5⟩ := T_mm hs h31 a1 f1
            have e3 : g189 = blF g140 1 x171 := by
              rw [eg189, eg184]
              rfl
            rw [e3]
            obtain ⟨b1, b2, b3, b4, b5⟩ := T_mmB (x := x171) m1 m2 m3 m4 m5 (by have := m1.1.sz; omega) (by omega)
            exact ⟨803, by omega, rfl, b1, b2, b3, b4, b5, fun z => absurd (show (1 : Int) = 0 from z) (by decide), hw⟩
        · skip
          have a1 : AP g g140 := qg140
          have f1 := rg140
          rw [hg] at a1 f1
          obtain ⟨m1, m2, m3, m4, m5⟩ := T_mm hs h31 a1 f1
          exact ⟨803, by omega, rfl, m1, m2, m3, m4, m5, fun z => by omega, hw⟩
  · intro n g v197_3 rg qv197_30 qv197_31 hI
    obtain ⟨hn, m1, m2, m3, m4, m5, m6, hw⟩ := hI
    have hdg := m1.dn
    have hzg := m1.1.sz
    have h35 : g 386 35 = s0 386 35 := rg.s (by decide)
    refine ⟨fun g' => OpP c0 3 g g', ?_, ?_⟩
    · skip
      exact v_2334 m1 m5 (by decide) m6
    · skip
      intro g195 rg195 qg195
      intro x197 ex197 fx197 gx197
      refine ⟨fun h201 => ?_, fun h201 => ?_⟩
      · skip
        exact T_pairF qg195 m2 m4 h35 (by omega)
      · skip
        intro x202 ex202 fx202 gx202
        intro x206 ex206
        have oh208 : (0 ≤ x206) := by
          have a2 : OpP c0 3 g g195 := qg195
          obtain ⟨-, -, -, b4, b5, -, -⟩ := a2
          omega
        refine ⟨oh208, ?_⟩
        intro g213 eg213
        have e2 : g213 = zup g195 412 (g195 386 41 - 1).toNat v197_3 := by
          rw [eg213, show g195 386 41 - 1 = x206 by omega]
        rw [e2]
        exact T_pair qg195 m2 m4 h35 (by omega) (by omega)
  · intro n g  rg  hI
    obtain ⟨hn, hg⟩ := hI
    have hr : RI c0 0 g := by
      rw [hg]
      exact zbgF hs (Int.le_refl _)
    have hbg : g 411 (g 386 41 - 1).toNat ≠ 1 := by
      rw [hg]
      exact zbgF2
    have hkg : g 386 8 = 0 := by
      rw [hg]
      exact hk
    have h3 : g 386 3 = s0 386 3 := by
      rw [hg]
      rfl
    have ks : KS s0 g := by
      rw [hg]
      exact ⟨rfl, rfl, rfl, rfl, rfl, rfl, rfl, zup_na (by decide)⟩
    have e7 : g 407 = s0 407 := by
      rw [hg]
      exact zup_na (by decide)
    have hdg := hr.dn
    have hzg := hr.1.sz
    intro x214 ex214 fx214 gx214
    refine ⟨fun h218 => ?_, fun h218 => ?_⟩
    · skip
      refine ⟨fun h219 => ?_, fun h219 => ?_⟩
      · skip
        refine ⟨fun h220 => ?_, fun h220 => ?_⟩
        · skip
          refine ⟨fun h221 => ?_, fun h221 => ?_⟩
          · skip
            refine ⟨fun h222 => ?_, fun h222 => ?_⟩
            · skip
              refine ⟨fun h223 => ?_, fun h223 => ?_⟩
              · skip
                refine ⟨fun h224 => ?_, fun h224 => ?_⟩
                · skip
                  refine ⟨fun h225 => ?_, fun h225 => ?_⟩
                  · skip
                    exact ⟨663, by omega, rfl, hg, by omega⟩
                  · skip
                    intro y229 ey229
                    intro x230 ex230
                    refine ⟨fun h232 => ?_, fun h232 => ?_⟩
                    · skip
                      exact ⟨663, by omega, rfl, hg, by omega⟩
                    · skip
                      exact ⟨663, by omega, rfl, hg, by omega⟩
                · skip
                  intro y236 ey236
                  intro x237 ex237
                  refine ⟨fun h239 => ?_, fun h239 => ?_⟩
                  · skip
                    intro x240 ex240
                    refine ⟨fun h242 => ?_, fun h242 => ?_⟩
                    · skip
                      exact ⟨663, by omega, rfl, hg, by omega⟩
                    · skip
                      exact ⟨663, by omega, rfl, hg, by omega⟩
                  · skip
                    exact ⟨663, by omega, rfl, hg, by omega⟩
              · skip
                intro y246 ey246
                intro x247 ex247
                refine ⟨fun h249 => ?_, fun h249 => ?_⟩
                · skip
                  intro x250 ex250
                  refine ⟨fun h252 => ?_, fun h252 => ?_⟩
                  · skip
                    intro x253 ex253
                    refine ⟨fun h255 => ?_, fun h255 => ?_⟩
                    · skip
                      exact ⟨663, by omega, rfl, hg, by omega⟩
                    · skip
                      exact ⟨663, by omega, rfl, hg, by omega⟩
                  · skip
                    exact ⟨663, by omega, rfl, hg, by omega⟩
                · skip
                  exact ⟨663, by omega, rfl, hg, by omega⟩
            · skip
              intro y259 ey259
              intro x260 ex260
              refine ⟨fun h262 => ?_, fun h262 => ?_⟩
              · skip
                intro x263 ex263
                refine ⟨fun h265 => ?_, fun h265 => ?_⟩
                · skip
                  intro x266 ex266
                  refine ⟨fun h268 => ?_, fun h268 => ?_⟩
                  · skip
                    intro x269 ex269
                    refine ⟨fun h271 => ?_, fun h271 => ?_⟩
                    · skip
                      exact ⟨663, by omega, rfl, hg, by omega⟩
                    · skip
                      exact ⟨663, by omega, rfl, hg, by omega⟩
                  · skip
                    exact ⟨663, by omega, rfl, hg, by omega⟩
                · skip
                  exact ⟨663, by omega, rfl, hg, by omega⟩
              · skip
                exact ⟨663, by omega, rfl, hg, by omega⟩
          · skip
            intro y275 ey275
            intro x276 ex276
            refine ⟨fun h278 => ?_, fun h278 => ?_⟩
            · skip
              intro x279 ex279
              refine ⟨fun h281 => ?_, fun h281 => ?_⟩
              · skip
                intro x282 ex282
                refine ⟨fun h284 => ?_, fun h284 => ?_⟩
                · skip
                  intro x285 ex285
                  refine ⟨fun h287 => ?_, fun h287 => ?_⟩
                  · skip
                    intro x288 ex288
                    refine ⟨fun h290 => ?_, fun h290 => ?_⟩
                    · skip
                      exact ⟨663, by omega, rfl, hg, by omega⟩
                    · skip
                      exact ⟨663, by omega, rfl, hg, by omega⟩
                  · skip
                    exact ⟨663, by omega, rfl, hg, by omega⟩
                · skip
                  exact ⟨663, by omega, rfl, hg, by omega⟩
              · skip
                exact ⟨663, by omega, rfl, hg, by omega⟩
            · skip
              exact ⟨663, by omega, rfl, hg, by omega⟩
        · skip
          intro y294 ey294
          intro x295 ex295
          refine ⟨fun h297 => ?_, fun h297 => ?_⟩
          · skip
            intro x298 ex298
            refine ⟨fun h300 => ?_, fun h300 => ?_⟩
            · skip
              intro x301 ex301
              refine ⟨fun h303 => ?_, fun h303 => ?_⟩
              · skip
                intro x304 ex304
                refine ⟨fun h306 => ?_, fun h306 => ?_⟩
                · skip
                  intro x307 ex307
                  refine ⟨fun h309 => ?_, fun h309 => ?_⟩
                  · skip
                    intro x310 ex310
                    refine ⟨fun h312 => ?_, fun h312 => ?_⟩
                    · skip
                      exact ⟨663, by omega, rfl, hg, by omega⟩
                    · skip
                      exact ⟨663, by omega, rfl, hg, by omega⟩
                  · skip
                    exact ⟨663, by omega, rfl, hg, by omega⟩
                · skip
                  exact ⟨663, by omega, rfl, hg, by omega⟩
              · skip
                exact ⟨663, by omega, rfl, hg, by omega⟩
            · skip
              exact ⟨663, by omega, rfl, hg, by omega⟩
          · skip
            exact ⟨663, by omega, rfl, hg, by omega⟩
      · skip
        intro y316 ey316
        intro x317 ex317
        refine ⟨fun h319 => ?_, fun h319 => ?_⟩
        · skip
          intro x320 ex320
          refine ⟨fun h322 => ?_, fun h322 => ?_⟩
          · skip
            intro x323 ex323
            refine ⟨fun h325 => ?_, fun h325 => ?_⟩
            · skip
              intro x326 ex326
              refine ⟨fun h328 => ?_, fun h328 => ?_⟩
              · skip
                intro x329 ex329
                refine ⟨fun h331 => ?_, fun h331 => ?_⟩
                · skip
                  intro x332 ex332
                  refine ⟨fun h334 => ?_, fun h334 => ?_⟩
                  · skip
                    intro x335 ex335
                    refine ⟨fun h337 => ?_, fun h337 => ?_⟩
                    · skip
                      exact ⟨663, by omega, rfl, hg, by omega⟩
                    · skip
                      exact ⟨663, by omega, rfl, hg, by omega⟩
                  · skip
                    exact ⟨663, by omega, rfl, hg, by omega⟩
                · skip
                  exact ⟨663, by omega, rfl, hg, by omega⟩
              · skip
                exact ⟨663, by omega, rfl, hg, by omega⟩
            · skip
              exact ⟨663, by omega, rfl, hg, by omega⟩
          · skip
            exact ⟨663, by omega, rfl, hg, by omega⟩
        · skip
          exact ⟨663, by omega, rfl, hg, by omega⟩
    · skip
      exact ⟨663, by omega, rfl, hg, by omega⟩
  · intro n g v337_3 rg qv337_30 qv337_31 hI
    obtain ⟨hn, hg, hw⟩ := hI
    have hr : RI c0 0 g := by
      rw [hg]
      exact zbgF hs (Int.le_refl _)
    have hbg : g 411 (g 386 41 - 1).toNat ≠ 1 := by
      rw [hg]
      exact zbgF2
    have hkg : g 386 8 = 0 := by
      rw [hg]
      exact hk
    have h3 : g 386 3 = s0 386 3 := by
      rw [hg]
      rfl
    have ks : KS s0 g := by
      rw [hg]
      exact ⟨rfl, rfl, rfl, rfl, rfl, rfl, rfl, zup_na (by decide)⟩
    have e7 : g 407 = s0 407 := by
      rw [hg]
      exact zup_na (by decide)
    have hdg := hr.dn
    have hzg := hr.1.sz
    refine ⟨fun h338 => ?_, fun h338 => ?_⟩
    · skip
      intro x339 ex339 fx339 gx339
      refine ⟨fun h343 => ?_, fun h343 => ?_⟩
      · skip
        exfalso
        omega
      · skip
        intro x344 ex344
        refine ⟨fun g' => g' = addF g v337_3 x344, ?_, ?_⟩
        · skip
          have hlt := hr.1.lt (by omega)
          exact v_2335 (by omega) (by omega) rfl
        · skip
          intro g353 rg353 qg353
          refine ⟨fun g' => AP g353 g', ?_, ?_⟩
          · skip
            have e1 : g353 = addF g v337_3 x344 := qg353
            rw [e1]
            exact v_2310 (SG.ap hr.1)
          · skip
            intro g360 rg360 qg360
            have e1 : g353 = addF (zup s0 411 (s0 386 41 - 1).toNat 0) v337_3 x344 := by
              rw [← hg]
              exact qg353
            have a2 : AP g353 g360 := qg360
            have f2 := rg360
            rw [e1] at a2 f2
            exact T_opndB hs hk (by omega) (by omega) a2 f2
    · skip
      intro x362 ex362 fx362 gx362
      intro x366 ex366 fx366 gx366
      refine ⟨fun h370 => ?_, fun h370 => ?_⟩
      · skip
        exfalso
        omega
      · skip
        intro g375 eg375
        intro g380 eg380
        have e2 : g380 = blF (zup s0 411 (s0 386 41 - 1).toNat 0) 1 x362 := by
          rw [eg380, eg375, hg]
          rfl
        rw [e2]
        exact T_obl hs hk
set_option maxHeartbeats 4000000 in
theorem v_2336 {c0 : Int} {s0 : zF} (hs : RI c0 1 s0) (hk : s0 386 8 = 0) (h45 : s0 386 45 = 1) : b_2336 s0 (fun v g => GP c0 s0 v g) := by
  have hd := hs.dn
  have hz := hs.1.sz
  refine ⟨fun n g v19_1 v19_2 v19_3 => n = 981 ∧ g = s0 ∧ v19_1 = s0 386 41 - 1 ∧ v19_2 = s0 409 v19_1.toNat, fun n g v175_1 v175_2 v175_3 => n = 825 ∧ g = s0 ∧ v175_1 = s0 386 41 - 1 ∧ v175_2 = s0 409 v175_1.toNat, fun n g v272_1 v272_2 v272_3 => n = 728 ∧ g = s0 ∧ v272_1 = s0 386 41 - 1 ∧ v272_2 = s0 409 v272_1.toNat, fun n g v387_1 v387_2 v387_3 => n = 613 ∧ g = s0 ∧ v387_1 = s0 386 41 - 1 ∧ v387_2 = s0 409 v387_1.toNat, fun n g v409_1 v409_2 => n = 591 ∧ (g = s0 ∨ ∃ x, g = blF s0 1 x) ∧ v409_1 = s0 386 41 - 1 ∧ v409_2 = s0 409 v409_1.toNat, ?_, ?_, ?_, ?_, ?_, ?_⟩
  · skip
    intro x949 ex949 fx949 gx949
    intro x953 ex953
    have oh955 : (0 ≤ x953) := by
      omega
    refine ⟨oh955, ?_⟩
    intro x959 ex959 fx959 gx959
    refine ⟨fun h960 => ?_, fun h960 => ?_⟩
    · skip
      refine ⟨fun h961 => ?_, fun h961 => ?_⟩
      · skip
        exact ⟨981, rfl, rfl, by omega, by assumption⟩
      · skip
        exact ⟨981, rfl, rfl, by omega, by assumption⟩
    · skip
      exact ⟨981, rfl, rfl, by omega, by assumption⟩
  · intro n g v19_1 v19_2 v19_3 rg qv19_10 qv19_11 qv19_20 qv19_21 qv19_30 qv19_31 hI
    obtain ⟨hn, hg, hv, hv2⟩ := hI
    have hsg : RI c0 1 g := by
      rw [hg]
      exact hs
    have hkg : g 386 8 = 0 := by
      rw [hg]
      exact hk
    have hN := hsg.n hkg
    have hdg := hsg.dn
    have hzg := hsg.1.sz
    intro x4 ex4 fx4 gx4
    refine ⟨fun h5 => ?_, fun h5 => ?_⟩
    · skip
      intro x6 ex6 fx6 gx6
      refine ⟨fun h10 => ?_, fun h10 => ?_⟩
      · skip
        exact ⟨825, by omega, rfl, hg, hv, hv2⟩
      · skip
        intro x11 ex11
        refine ⟨fun h15 => ?_, fun h15 => ?_⟩
        · skip
          refine ⟨fun h16 => ?_, fun h16 => ?_⟩
          · skip
            refine ⟨fun h17 => ?_, fun h17 => ?_⟩
            · skip
              refine ⟨fun h18 => ?_, fun h18 => ?_⟩
              · skip
                refine ⟨fun h19 => ?_, fun h19 => ?_⟩
                · skip
                  exact ⟨825, by omega, rfl, hg, hv, hv2⟩
                · skip
                  refine ⟨fun g' => JP c0 g 6 g', ?_, ?_⟩
                  · skip
                    exact v_2337 hsg hkg
                  · skip
                    intro g25 rg25 qg25
                    refine ⟨fun g' => g' = hbF g25 14, ?_, ?_⟩
                    · skip
                      have j : JP c0 g 6 g25 := qg25
                      have hn1 := j.1.n ((JP.ks rg25).2.2.2.2.2.1.trans hkg)
                      exact v_2332 (by omega) (by omega) rfl
                    · skip
                      intro g34 rg34 qg34
                      refine ⟨fun g' => AP g34 g', ?_, ?_⟩
                      · skip
                        have j : JP c0 g 6 g25 := qg25
                        have e2 : g34 = hbF g25 14 := qg34
                        rw [e2]
                        exact v_2310 (SG.ap j.1.1)
                      · skip
                        intro g41 rg41 qg41
                        intro g47 eg47
                        have j : JP c0 g 6 g25 := qg25
                        have e2 : g34 = hbF g25 14 := qg34
                        have a3 : AP g34 g41 := qg41
                        have f3 := rg41
                        rw [e2] at a3 f3
                        show GP c0 s0 1 g47
                        rw [eg47, ← hg]
                        exact T_bin hsg hkg (by omega) rg25 j (by decide) (by decide) (by decide) a3 f3
              · skip
                refine ⟨fun g' => JP c0 g 6 g', ?_, ?_⟩
                · skip
                  exact v_2337 hsg hkg
                · skip
                  intro g53 rg53 qg53
                  refine ⟨fun g' => g' = hbF g53 13, ?_, ?_⟩
                  · skip
                    have j : JP c0 g 6 g53 := qg53
                    have hn1 := j.1.n ((JP.ks rg53).2.2.2.2.2.1.trans hkg)
                    exact v_2332 (by omega) (by omega) rfl
                  · skip
                    intro g62 rg62 qg62
                    refine ⟨fun g' => AP g62 g', ?_, ?_⟩
                    · skip
                      have j : JP c0 g 6 g53 := qg53
                      have e2 : g62 = hbF g53 13 := qg62
                      rw [e2]
                      exact v_2310 (SG.ap j.1.1)
                    · skip
                      intro g69 rg69 qg69
                      intro g75 eg75
                      have j : JP c0 g 6 g53 := qg53
                      have e2 : g62 = hbF g53 13 := qg62
                      have a3 : AP g62 g69 := qg69
                      have f3 := rg69
                      rw [e2] at a3 f3
                      show GP c0 s0 1 g75
                      rw [eg75, ← hg]
                      exact T_bin hsg hkg (by omega) rg53 j (by decide) (by decide) (by decide) a3 f3
            · skip
              refine ⟨fun g' => JP c0 g 6 g', ?_, ?_⟩
              · skip
                exact v_2337 hsg hkg
              · skip
                intro g81 rg81 qg81
                refine ⟨fun g' => g' = hbF g81 12, ?_, ?_⟩
                · skip
                  have j : JP c0 g 6 g81 := qg81
                  have hn1 := j.1.n ((JP.ks rg81).2.2.2.2.2.1.trans hkg)
                  exact v_2332 (by omega) (by omega) rfl
                · skip
                  intro g90 rg90 qg90
                  refine ⟨fun g' => AP g90 g', ?_, ?_⟩
                  · skip
                    have j : JP c0 g 6 g81 := qg81
                    have e2 : g90 = hbF g81 12 := qg90
                    rw [e2]
                    exact v_2310 (SG.ap j.1.1)
                  · skip
                    intro g97 rg97 qg97
                    intro g103 eg103
                    have j : JP c0 g 6 g81 := qg81
                    have e2 : g90 = hbF g81 12 := qg90
                    have a3 : AP g90 g97 := qg97
                    have f3 := rg97
                    rw [e2] at a3 f3
                    show GP c0 s0 1 g103
                    rw [eg103, ← hg]
                    exact T_bin hsg hkg (by omega) rg81 j (by decide) (by decide) (by decide) a3 f3
          · skip
            refine ⟨fun g' => JP c0 g 5 g', ?_, ?_⟩
            · skip
              exact v_2337 hsg hkg
            · skip
              intro g109 rg109 qg109
              refine ⟨fun g' => g' = hbF g109 11, ?_, ?_⟩
              · skip
                have j : JP c0 g 5 g109 := qg109
                have hn1 := j.1.n ((JP.ks rg109).2.2.2.2.2.1.trans hkg)
                exact v_2332 (by omega) (by omega) rfl
              · skip
                intro g118 rg118 qg118
                refine ⟨fun g' => AP g118 g', ?_, ?_⟩
                · skip
                  have j : JP c0 g 5 g109 := qg109
                  have e2 : g118 = hbF g109 11 := qg118
                  rw [e2]
                  exact v_2310 (SG.ap j.1.1)
                · skip
                  intro g125 rg125 qg125
                  intro g131 eg131
                  have j : JP c0 g 5 g109 := qg109
                  have e2 : g118 = hbF g109 11 := qg118
                  have a3 : AP g118 g125 := qg125
                  have f3 := rg125
                  rw [e2] at a3 f3
                  show GP c0 s0 1 g131
                  rw [eg131, ← hg]
                  exact T_bin hsg hkg (by omega) rg109 j (by decide) (by decide) (by decide) a3 f3
        · skip
          refine ⟨fun g' => JP c0 g 5 g', ?_, ?_⟩
          · skip
            exact v_2337 hsg hkg
          · skip
            intro g137 rg137 qg137
            refine ⟨fun g' => g' = hbF g137 10, ?_, ?_⟩
            · skip
              have j : JP c0 g 5 g137 := qg137
              have hn1 := j.1.n ((JP.ks rg137).2.2.2.2.2.1.trans hkg)
              exact v_2332 (by omega) (by omega) rfl
            · skip
              intro g146 rg146 qg146
              refine ⟨fun g' => AP g146 g', ?_, ?_⟩
              · skip
                have j : JP c0 g 5 g137 := qg137
                have e2 : g146 = hbF g137 10 := qg146
                rw [e2]
                exact v_2310 (SG.ap j.1.1)
              · skip
                intro g153 rg153 qg153
                intro g159 eg159
                have j : JP c0 g 5 g137 := qg137
                have e2 : g146 = hbF g137 10 := qg146
                have a3 : AP g146 g153 := qg153
                have f3 := rg153
                rw [e2] at a3 f3
                show GP c0 s0 1 g159
                rw [eg159, ← hg]
                exact T_bin hsg hkg (by omega) rg137 j (by decide) (by decide) (by decide) a3 f3
    · skip
      exact ⟨825, by omega, rfl, hg, hv, hv2⟩
  · intro n g v175_1 v175_2 v175_3 rg qv175_10 qv175_11 qv175_20 qv175_21 qv175_30 qv175_31 hI
    obtain ⟨hn, hg, hv, hv2⟩ := hI
    have hsg : RI c0 1 g := by
      rw [hg]
      exact hs
    have hkg : g 386 8 = 0 := by
      rw [hg]
      exact hk
    have hN := hsg.n hkg
    have hdg := hsg.dn
    have hzg := hsg.1.sz
    refine ⟨fun h160 => ?_, fun h160 => ?_⟩
    · skip
      intro x164 ex164 fx164 gx164
      refine ⟨fun h165 => ?_, fun h165 => ?_⟩
      · skip
        exact ⟨728, by omega, rfl, hg, hv, hv2⟩
      · skip
        intro x166 ex166 fx166 gx166
        refine ⟨fun h170 => ?_, fun h170 => ?_⟩
        · skip
          exact ⟨728, by omega, rfl, hg, hv, hv2⟩
        · skip
          intro x171 ex171
          refine ⟨fun h175 => ?_, fun h175 => ?_⟩
          · skip
            refine ⟨fun h176 => ?_, fun h176 => ?_⟩
            · skip
              refine ⟨fun h177 => ?_, fun h177 => ?_⟩
              · skip
                exact ⟨728, by omega, rfl, hg, hv, hv2⟩
              · skip
                refine ⟨fun g' => JP c0 g 5 g', ?_, ?_⟩
                · skip
                  exact v_2337 hsg hkg
                · skip
                  intro g183 rg183 qg183
                  refine ⟨fun g' => g' = hbF g183 19, ?_, ?_⟩
                  · skip
                    have j : JP c0 g 5 g183 := qg183
                    have hn1 := j.1.n ((JP.ks rg183).2.2.2.2.2.1.trans hkg)
                    exact v_2332 (by omega) (by omega) rfl
                  · skip
                    intro g192 rg192 qg192
                    intro g198 eg198
                    refine ⟨fun g' => AP g198 g', ?_, ?_⟩
                    · skip
                      have j : JP c0 g 5 g183 := qg183
                      have e2 : g192 = hbF g183 19 := qg192
                      rw [eg198, e2]
                      exact v_2310 (SG.ap j.1.1)
                    · skip
                      intro g204 rg204 qg204
                      intro g210 eg210
                      have j : JP c0 g 5 g183 := qg183
                      have e2 : g192 = hbF g183 19 := qg192
                      have hvg : v175_1 = g 386 41 - 1 := by
                        rw [hg]
                        exact hv
                      have e3 : g198 = zup (hbF g183 19) 410 (g 386 41 - 1).toNat 1 := by
                        rw [eg198, e2, hvg]
                      have a4 : AP g198 g204 := qg204
                      have f4 := rg204
                      rw [e3] at a4 f4
                      show GP c0 s0 1 g210
                      rw [eg210, ← hg]
                      exact T_cmp hsg hkg (by omega) rg183 j (by decide) (by decide) (by rw [← hvg]; omega) a4 f4
            · skip
              refine ⟨fun g' => JP c0 g 5 g', ?_, ?_⟩
              · skip
                exact v_2337 hsg hkg
              · skip
                intro g216 rg216 qg216
                refine ⟨fun g' => g' = hbF g216 18, ?_, ?_⟩
                · skip
                  have j : JP c0 g 5 g216 := qg216
                  have hn1 := j.1.n ((JP.ks rg216).2.2.2.2.2.1.trans hkg)
                  exact v_2332 (by omega) (by omega) rfl
                · skip
                  intro g225 rg225 qg225
                  intro g231 eg231
                  refine ⟨fun g' => AP g231 g', ?_, ?_⟩
                  · skip
                    have j : JP c0 g 5 g216 := qg216
                    have e2 : g225 = hbF g216 18 := qg225
                    rw [eg231, e2]
                    exact v_2310 (SG.ap j.1.1)
                  · skip
                    intro g237 rg237 qg237
                    intro g243 eg243
                    have j : JP c0 g 5 g216 := qg216
                    have e2 : g225 = hbF g216 18 := qg225
                    have hvg : v175_1 = g 386 41 - 1 := by
                      rw [hg]
                      exact hv
                    have e3 : g231 = zup (hbF g216 18) 410 (g 386 41 - 1).toNat 1 := by
                      rw [eg231, e2, hvg]
                    have a4 : AP g231 g237 := qg237
                    have f4 := rg237
                    rw [e3] at a4 f4
                    show GP c0 s0 1 g243
                    rw [eg243, ← hg]
                    exact T_cmp hsg hkg (by omega) rg216 j (by decide) (by decide) (by rw [← hvg]; omega) a4 f4
          · skip
            refine ⟨fun g' => JP c0 g 5 g', ?_, ?_⟩
            · skip
              exact v_2337 hsg hkg
            · skip
              intro g249 rg249 qg249
              refine ⟨fun g' => g' = hbF g249 17, ?_, ?_⟩
              · skip
                have j : JP c0 g 5 g249 := qg249
                have hn1 := j.1.n ((JP.ks rg249).2.2.2.2.2.1.trans hkg)
                exact v_2332 (by omega) (by omega) rfl
              · skip
                intro g258 rg258 qg258
                intro g264 eg264
                refine ⟨fun g' => AP g264 g', ?_, ?_⟩
                · skip
                  have j : JP c0 g 5 g249 := qg249
                  have e2 : g258 = hbF g249 17 := qg258
                  rw [eg264, e2]
                  exact v_2310 (SG.ap j.1.1)
                · skip
                  intro g270 rg270 qg270
                  intro g276 eg276
                  have j : JP c0 g 5 g249 := qg249
                  have e2 : g258 = hbF g249 17 := qg258
                  have hvg : v175_1 = g 386 41 - 1 := by
                    rw [hg]
                    exact hv
                  have e3 : g264 = zup (hbF g249 17) 410 (g 386 41 - 1).toNat 1 := by
                    rw [eg264, e2, hvg]
                  have a4 : AP g264 g270 := qg270
                  have f4 := rg270
                  rw [e3] at a4 f4
                  show GP c0 s0 1 g276
                  rw [eg276, ← hg]
                  exact T_cmp hsg hkg (by omega) rg249 j (by decide) (by decide) (by rw [← hvg]; omega) a4 f4
    · skip
      exact ⟨728, by omega, rfl, hg, hv, hv2⟩
  · intro n g v272_1 v272_2 v272_3 rg qv272_10 qv272_11 qv272_20 qv272_21 qv272_30 qv272_31 hI
    obtain ⟨hn, hg, hv, hv2⟩ := hI
    have hsg : RI c0 1 g := by
      rw [hg]
      exact hs
    have hkg : g 386 8 = 0 := by
      rw [hg]
      exact hk
    have hN := hsg.n hkg
    have hdg := hsg.dn
    have hzg := hsg.1.sz
    refine ⟨fun h277 => ?_, fun h277 => ?_⟩
    · skip
      intro x278 ex278 fx278 gx278
      refine ⟨fun h282 => ?_, fun h282 => ?_⟩
      · skip
        refine ⟨fun h283 => ?_, fun h283 => ?_⟩
        · skip
          exact ⟨613, by omega, rfl, hg, hv, hv2⟩
        · skip
          intro y287 ey287
          intro x288 ex288
          refine ⟨fun h290 => ?_, fun h290 => ?_⟩
          · skip
            exact ⟨613, by omega, rfl, hg, hv, hv2⟩
          · skip
            intro x294 ex294 fx294 gx294
            refine ⟨fun h295 => ?_, fun h295 => ?_⟩
            · skip
              intro x296 ex296 fx296 gx296
              refine ⟨fun h300 => ?_, fun h300 => ?_⟩
              · skip
                exfalso
                omega
              · skip
                intro x301 ex301
                refine ⟨fun h303 => ?_, fun h303 => ?_⟩
                · skip
                  refine ⟨fun g' => JP c0 g 1 g', ?_, ?_⟩
                  · skip
                    exact v_2337 hsg hkg
                  · skip
                    intro g309 rg309 qg309
                    refine ⟨fun g' => g' = hbF g309 21, ?_, ?_⟩
                    · skip
                      have j : JP c0 g 1 g309 := qg309
                      have hn1 := j.1.n ((JP.ks rg309).2.2.2.2.2.1.trans hkg)
                      exact v_2332 (by omega) (by omega) rfl
                    · skip
                      intro g316 rg316 qg316
                      intro g322 eg322
                      intro g327 eg327
                      refine ⟨fun g' => AP g327 g', ?_, ?_⟩
                      · skip
                        have j : JP c0 g 1 g309 := qg309
                        have e2 : g316 = hbF g309 21 := qg316
                        rw [eg327, eg322, e2]
                        exact v_2310 (SG.ap j.1.1)
                      · skip
                        intro g333 rg333 qg333
                        intro g339 eg339
                        have j : JP c0 g 1 g309 := qg309
                        have e2 : g316 = hbF g309 21 := qg316
                        have hvg : v272_1 = g 386 41 - 1 := by
                          rw [hg]
                          exact hv
                        have e4 : g327 = zup (zup (hbF g309 21) 410 (g 386 41 - 1).toNat 0) 411 (g 386 41 - 1).toNat 1 := by
                          rw [eg327, eg322, e2, hvg]
                        have a5 : AP g327 g333 := qg333
                        have f5 := rg333
                        rw [e4] at a5 f5
                        show GP c0 s0 1 g339
                        rw [eg339, ← hg]
                        exact T_log hsg hkg (by omega) rg309 j (by decide) (by decide) (by decide) a5 f5
                · skip
                  refine ⟨fun g' => JP c0 g 2 g', ?_, ?_⟩
                  · skip
                    exact v_2337 hsg hkg
                  · skip
                    intro g345 rg345 qg345
                    refine ⟨fun g' => g' = hbF g345 20, ?_, ?_⟩
                    · skip
                      have j : JP c0 g 2 g345 := qg345
                      have hn1 := j.1.n ((JP.ks rg345).2.2.2.2.2.1.trans hkg)
                      exact v_2332 (by omega) (by omega) rfl
                    · skip
                      intro g352 rg352 qg352
                      intro g358 eg358
                      intro g363 eg363
                      refine ⟨fun g' => AP g363 g', ?_, ?_⟩
                      · skip
                        have j : JP c0 g 2 g345 := qg345
                        have e2 : g352 = hbF g345 20 := qg352
                        rw [eg363, eg358, e2]
                        exact v_2310 (SG.ap j.1.1)
                      · skip
                        intro g369 rg369 qg369
                        intro g375 eg375
                        have j : JP c0 g 2 g345 := qg345
                        have e2 : g352 = hbF g345 20 := qg352
                        have hvg : v272_1 = g 386 41 - 1 := by
                          rw [hg]
                          exact hv
                        have e4 : g363 = zup (zup (hbF g345 20) 410 (g 386 41 - 1).toNat 0) 411 (g 386 41 - 1).toNat 1 := by
                          rw [eg363, eg358, e2, hvg]
                        have a5 : AP g363 g369 := qg369
                        have f5 := rg369
                        rw [e4] at a5 f5
                        show GP c0 s0 1 g375
                        rw [eg375, ← hg]
                        exact T_log hsg hkg (by omega) rg345 j (by decide) (by decide) (by decide) a5 f5
            · skip
              intro x376 ex376 fx376 gx376
              intro x380 ex380 fx380 gx380
              refine ⟨fun h384 => ?_, fun h384 => ?_⟩
              · skip
                exfalso
                omega
              · skip
                intro g389 eg389
                intro g394 eg394
                have e2 : g394 = blF s0 1 x376 := by
                  rw [eg394, eg389, hg]
                  rfl
                rw [e2]
                exact T_bl hs hk h45 (by decide) (by decide)
      · skip
        intro y399 ey399
        intro x400 ex400
        refine ⟨fun h402 => ?_, fun h402 => ?_⟩
        · skip
          intro x403 ex403
          refine ⟨fun h405 => ?_, fun h405 => ?_⟩
          · skip
            exact ⟨613, by omega, rfl, hg, hv, hv2⟩
          · skip
            intro x409 ex409 fx409 gx409
            refine ⟨fun h410 => ?_, fun h410 => ?_⟩
            · skip
              intro x411 ex411 fx411 gx411
              refine ⟨fun h415 => ?_, fun h415 => ?_⟩
              · skip
                exfalso
                omega
              · skip
                intro x416 ex416
                refine ⟨fun h418 => ?_, fun h418 => ?_⟩
                · skip
                  refine ⟨fun g' => JP c0 g 1 g', ?_, ?_⟩
                  · skip
                    exact v_2337 hsg hkg
                  · skip
                    intro g424 rg424 qg424
                    refine ⟨fun g' => g' = hbF g424 21, ?_, ?_⟩
                    · skip
                      have j : JP c0 g 1 g424 := qg424
                      have hn1 := j.1.n ((JP.ks rg424).2.2.2.2.2.1.trans hkg)
                      exact v_2332 (by omega) (by omega) rfl
                    · skip
                      intro g431 rg431 qg431
                      intro g437 eg437
                      intro g442 eg442
                      refine ⟨fun g' => AP g442 g', ?_, ?_⟩
                      · skip
                        have j : JP c0 g 1 g424 := qg424
                        have e2 : g431 = hbF g424 21 := qg431
                        rw [eg442, eg437, e2]
                        exact v_2310 (SG.ap j.1.1)
                      · skip
                        intro g448 rg448 qg448
                        intro g454 eg454
                        have j : JP c0 g 1 g424 := qg424
                        have e2 : g431 = hbF g424 21 := qg431
                        have hvg : v272_1 = g 386 41 - 1 := by
                          rw [hg]
                          exact hv
                        have e4 : g442 = zup (zup (hbF g424 21) 410 (g 386 41 - 1).toNat 0) 411 (g 386 41 - 1).toNat 1 := by
                          rw [eg442, eg437, e2, hvg]
                        have a5 : AP g442 g448 := qg448
                        have f5 := rg448
                        rw [e4] at a5 f5
                        show GP c0 s0 1 g454
                        rw [eg454, ← hg]
                        exact T_log hsg hkg (by omega) rg424 j (by decide) (by decide) (by decide) a5 f5
                · skip
                  refine ⟨fun g' => JP c0 g 2 g', ?_, ?_⟩
                  · skip
                    exact v_2337 hsg hkg
                  · skip
                    intro g460 rg460 qg460
                    refine ⟨fun g' => g' = hbF g460 20, ?_, ?_⟩
                    · skip
                      have j : JP c0 g 2 g460 := qg460
                      have hn1 := j.1.n ((JP.ks rg460).2.2.2.2.2.1.trans hkg)
                      exact v_2332 (by omega) (by omega) rfl
                    · skip
                      intro g467 rg467 qg467
                      intro g473 eg473
                      intro g478 eg478
                      refine ⟨fun g' => AP g478 g', ?_, ?_⟩
                      · skip
                        have j : JP c0 g 2 g460 := qg460
                        have e2 : g467 = hbF g460 20 := qg467
                        rw [eg478, eg473, e2]
                        exact v_2310 (SG.ap j.1.1)
                      · skip
                        intro g484 rg484 qg484
                        intro g490 eg490
                        have j : JP c0 g 2 g460 := qg460
                        have e2 : g467 = hbF g460 20 := qg467
                        have hvg : v272_1 = g 386 41 - 1 := by
                          rw [hg]
                          exact hv
                        have e4 : g478 = zup (zup (hbF g460 20) 410 (g 386 41 - 1).toNat 0) 411 (g 386 41 - 1).toNat 1 := by
                          rw [eg478, eg473, e2, hvg]
                        have a5 : AP g478 g484 := qg484
                        have f5 := rg484
                        rw [e4] at a5 f5
                        show GP c0 s0 1 g490
                        rw [eg490, ← hg]
                        exact T_log hsg hkg (by omega) rg460 j (by decide) (by decide) (by decide) a5 f5
            · skip
              intro x491 ex491 fx491 gx491
              intro x495 ex495 fx495 gx495
              refine ⟨fun h499 => ?_, fun h499 => ?_⟩
              · skip
                exfalso
                omega
              · skip
                intro g504 eg504
                intro g509 eg509
                have e2 : g509 = blF s0 1 x491 := by
                  rw [eg509, eg504, hg]
                  rfl
                rw [e2]
                exact T_bl hs hk h45 (by decide) (by decide)
        · skip
          intro x514 ex514 fx514 gx514
          refine ⟨fun h515 => ?_, fun h515 => ?_⟩
          · skip
            intro x516 ex516 fx516 gx516
            refine ⟨fun h520 => ?_, fun h520 => ?_⟩
            · skip
              exfalso
              omega
            · skip
              intro x521 ex521
              refine ⟨fun h523 => ?_, fun h523 => ?_⟩
              · skip
                refine ⟨fun g' => JP c0 g 1 g', ?_, ?_⟩
                · skip
                  exact v_2337 hsg hkg
                · skip
                  intro g529 rg529 qg529
                  refine ⟨fun g' => g' = hbF g529 21, ?_, ?_⟩
                  · skip
                    have j : JP c0 g 1 g529 := qg529
                    have hn1 := j.1.n ((JP.ks rg529).2.2.2.2.2.1.trans hkg)
                    exact v_2332 (by omega) (by omega) rfl
                  · skip
                    intro g536 rg536 qg536
                    intro g542 eg542
                    intro g547 eg547
                    refine ⟨fun g' => AP g547 g', ?_, ?_⟩
                    · skip
                      have j : JP c0 g 1 g529 := qg529
                      have e2 : g536 = hbF g529 21 := qg536
                      rw [eg547, eg542, e2]
                      exact v_2310 (SG.ap j.1.1)
                    · skip
                      intro g553 rg553 qg553
                      intro g559 eg559
                      have j : JP c0 g 1 g529 := qg529
                      have e2 : g536 = hbF g529 21 := qg536
                      have hvg : v272_1 = g 386 41 - 1 := by
                        rw [hg]
                        exact hv
                      have e4 : g547 = zup (zup (hbF g529 21) 410 (g 386 41 - 1).toNat 0) 411 (g 386 41 - 1).toNat 1 := by
                        rw [eg547, eg542, e2, hvg]
                      have a5 : AP g547 g553 := qg553
                      have f5 := rg553
                      rw [e4] at a5 f5
                      show GP c0 s0 1 g559
                      rw [eg559, ← hg]
                      exact T_log hsg hkg (by omega) rg529 j (by decide) (by decide) (by decide) a5 f5
              · skip
                refine ⟨fun g' => JP c0 g 2 g', ?_, ?_⟩
                · skip
                  exact v_2337 hsg hkg
                · skip
                  intro g565 rg565 qg565
                  refine ⟨fun g' => g' = hbF g565 20, ?_, ?_⟩
                  · skip
                    have j : JP c0 g 2 g565 := qg565
                    have hn1 := j.1.n ((JP.ks rg565).2.2.2.2.2.1.trans hkg)
                    exact v_2332 (by omega) (by omega) rfl
                  · skip
                    intro g572 rg572 qg572
                    intro g578 eg578
                    intro g583 eg583
                    refine ⟨fun g' => AP g583 g', ?_, ?_⟩
                    · skip
                      have j : JP c0 g 2 g565 := qg565
                      have e2 : g572 = hbF g565 20 := qg572
                      rw [eg583, eg578, e2]
                      exact v_2310 (SG.ap j.1.1)
                    · skip
                      intro g589 rg589 qg589
                      intro g595 eg595
                      have j : JP c0 g 2 g565 := qg565
                      have e2 : g572 = hbF g565 20 := qg572
                      have hvg : v272_1 = g 386 41 - 1 := by
                        rw [hg]
                        exact hv
                      have e4 : g583 = zup (zup (hbF g565 20) 410 (g 386 41 - 1).toNat 0) 411 (g 386 41 - 1).toNat 1 := by
                        rw [eg583, eg578, e2, hvg]
                      have a5 : AP g583 g589 := qg589
                      have f5 := rg589
                      rw [e4] at a5 f5
                      show GP c0 s0 1 g595
                      rw [eg595, ← hg]
                      exact T_log hsg hkg (by omega) rg565 j (by decide) (by decide) (by decide) a5 f5
          · skip
            intro x596 ex596 fx596 gx596
            intro x600 ex600 fx600 gx600
            refine ⟨fun h604 => ?_, fun h604 => ?_⟩
            · skip
              exfalso
              omega
            · skip
              intro g609 eg609
              intro g614 eg614
              have e2 : g614 = blF s0 1 x596 := by
                rw [eg614, eg609, hg]
                rfl
              rw [e2]
              exact T_bl hs hk h45 (by decide) (by decide)
    · skip
      exact ⟨613, by omega, rfl, hg, hv, hv2⟩
  · intro n g v387_1 v387_2 v387_3 rg qv387_10 qv387_11 qv387_20 qv387_21 qv387_30 qv387_31 hI
    obtain ⟨hn, hg, hv, hv2⟩ := hI
    have hsg : RI c0 1 g := by
      rw [hg]
      exact hs
    have hkg : g 386 8 = 0 := by
      rw [hg]
      exact hk
    have hN := hsg.n hkg
    have hdg := hsg.dn
    have hzg := hsg.1.sz
    refine ⟨fun h616 => ?_, fun h616 => ?_⟩
    · skip
      intro x620 ex620 fx620 gx620
      refine ⟨fun h621 => ?_, fun h621 => ?_⟩
      · skip
        exact ⟨591, by omega, rfl, Or.inl hg, hv, hv2⟩
      · skip
        intro x622 ex622 fx622 gx622
        intro x626 ex626 fx626 gx626
        refine ⟨fun h630 => ?_, fun h630 => ?_⟩
        · skip
          exact ⟨591, by omega, rfl, Or.inl hg, hv, hv2⟩
        · skip
          intro g635 eg635
          intro g640 eg640
          exact ⟨591, by omega, rfl, Or.inr ⟨x622, by rw [eg640, eg635, hg]; rfl⟩, hv, hv2⟩
    · skip
      exact ⟨591, by omega, rfl, Or.inl hg, hv, hv2⟩
  · intro n g v409_1 v409_2 rg qv409_10 qv409_11 qv409_20 qv409_21 hI
    obtain ⟨hn, hg, hv, hv2⟩ := hI
    have hg0 : g 386 8 = 0 → g = s0 := by
      intro z
      rcases hg with h | ⟨xx, h⟩
      · exact h
      · rw [h] at z
        exact absurd (show (1 : Int) = 0 from z) (by decide)
    have hg1 : 1 ≤ g 386 8 → ∃ x, g = blF s0 1 x := by
      intro z
      rcases hg with h | h
      · rw [h, hk] at z
        exact absurd z (by decide)
      · exact h
    refine ⟨fun h641 => ?_, fun h641 => ?_⟩
    · skip
      intro x642 ex642 fx642 gx642
      refine ⟨fun h646 => ?_, fun h646 => ?_⟩
      · skip
        obtain ⟨xx, hx⟩ := hg1 (by omega)
        rw [hx]
        exact T_bl hs hk h45 (by decide) (by decide)
      · skip
        refine ⟨fun g' => JP c0 g 1 g', ?_, ?_⟩
        · skip
          have hgs := hg0 (by omega)
          have hsg : RI c0 1 g := by
            rw [hgs]
            exact hs
          have hkg : g 386 8 = 0 := by omega
          have h45g : g 386 45 = 1 := by
            rw [hgs]
            exact h45
          have hdg := hsg.dn
          have hzg := hsg.1.sz
          have hvg : v409_1 = g 386 41 - 1 := by
            rw [hgs]
            exact hv
          have hfg : v409_2 = g 409 (g 386 41 - 1).toNat := by
            rw [hgs, ← hv]
            exact hv2
          exact v_2337 hsg hkg
        · skip
          intro g652 rg652 qg652
          have hgs := hg0 (by omega)
          have hsg : RI c0 1 g := by
            rw [hgs]
            exact hs
          have hkg : g 386 8 = 0 := by omega
          have h45g : g 386 45 = 1 := by
            rw [hgs]
            exact h45
          have hdg := hsg.dn
          have hzg := hsg.1.sz
          have hvg : v409_1 = g 386 41 - 1 := by
            rw [hgs]
            exact hv
          have hfg : v409_2 = g 409 (g 386 41 - 1).toNat := by
            rw [hgs, ← hv]
            exact hv2
          show GP c0 s0 0 g652
          rw [← hgs]
          exact T_end hsg h45g rg652 qg652
    · skip
      refine ⟨fun h654 => ?_, fun h654 => ?_⟩
      · skip
        refine ⟨fun h655 => ?_, fun h655 => ?_⟩
        · skip
          intro x656 ex656 fx656 gx656
          refine ⟨fun h660 => ?_, fun h660 => ?_⟩
          · skip
            intro x661 ex661 fx661 gx661
            intro x665 ex665 fx665 gx665
            refine ⟨fun h669 => ?_, fun h669 => ?_⟩
            · skip
              obtain ⟨xx, hx⟩ := hg1 (by omega)
              rw [hx]
              exact T_bl hs hk h45 (by decide) (by decide)
            · skip
              intro g674 eg674
              intro g679 eg679
              have hgs := hg0 (by omega)
              have e2 : g679 = blF s0 1 x661 := by
                rw [eg679, eg674, hgs]
                rfl
              rw [e2]
              exact T_bl hs hk h45 (by decide) (by decide)
          · skip
            intro x681 ex681
            refine ⟨fun h685 => ?_, fun h685 => ?_⟩
            · skip
              intro x686 ex686 fx686 gx686
              intro x690 ex690 fx690 gx690
              refine ⟨fun h694 => ?_, fun h694 => ?_⟩
              · skip
                obtain ⟨xx, hx⟩ := hg1 (by omega)
                rw [hx]
                exact T_bl hs hk h45 (by decide) (by decide)
              · skip
                intro g699 eg699
                intro g704 eg704
                have hgs := hg0 (by omega)
                have e2 : g704 = blF s0 1 x686 := by
                  rw [eg704, eg699, hgs]
                  rfl
                rw [e2]
                exact T_bl hs hk h45 (by decide) (by decide)
            · skip
              intro x706 ex706 fx706 gx706
              refine ⟨fun h710 => ?_, fun h710 => ?_⟩
              · skip
                obtain ⟨xx, hx⟩ := hg1 (by omega)
                rw [hx]
                exact T_bl hs hk h45 (by decide) (by decide)
              · skip
                refine ⟨fun g' => JP c0 g 1 g', ?_, ?_⟩
                · skip
                  have hgs := hg0 (by omega)
                  have hsg : RI c0 1 g := by
                    rw [hgs]
                    exact hs
                  have hkg : g 386 8 = 0 := by omega
                  have h45g : g 386 45 = 1 := by
                    rw [hgs]
                    exact h45
                  have hdg := hsg.dn
                  have hzg := hsg.1.sz
                  have hvg : v409_1 = g 386 41 - 1 := by
                    rw [hgs]
                    exact hv
                  have hfg : v409_2 = g 409 (g 386 41 - 1).toNat := by
                    rw [hgs, ← hv]
                    exact hv2
                  exact v_2337 hsg hkg
                · skip
                  intro g716 rg716 qg716
                  intro x718 ex718 fx718 gx718
                  intro x722 ex722
                  have oh728 : (0 ≤ x722) := by
                    have hgs := hg0 (by omega)
                    have hsg : RI c0 1 g := by
                      rw [hgs]
                      exact hs
                    have hkg : g 386 8 = 0 := by omega
                    have h45g : g 386 45 = 1 := by
                      rw [hgs]
                      exact h45
                    have hdg := hsg.dn
                    have hzg := hsg.1.sz
                    have hvg : v409_1 = g 386 41 - 1 := by
                      rw [hgs]
                      exact hv
                    have hfg : v409_2 = g 409 (g 386 41 - 1).toNat := by
                      rw [hgs, ← hv]
                      exact hv2
                    have hd2 := hsg.d2 (by omega)
                    have h41 : g716 386 41 = g 386 41 := rg716.s (by decide)
                    omega
                  refine ⟨oh728, ?_⟩
                  intro g729 eg729
                  intro x730 ex730 fx730 gx730
                  intro x734 ex734
                  have oh740 : (0 ≤ x734) := by
                    have hgs := hg0 (by omega)
                    have hsg : RI c0 1 g := by
                      rw [hgs]
                      exact hs
                    have hkg : g 386 8 = 0 := by omega
                    have h45g : g 386 45 = 1 := by
                      rw [hgs]
                      exact h45
                    have hdg := hsg.dn
                    have hzg := hsg.1.sz
                    have hvg : v409_1 = g 386 41 - 1 := by
                      rw [hgs]
                      exact hv
                    have hfg : v409_2 = g 409 (g 386 41 - 1).toNat := by
                      rw [hgs, ← hv]
                      exact hv2
                    have hd2 := hsg.d2 (by omega)
                    have h41 : g716 386 41 = g 386 41 := rg716.s (by decide)
                    have h42 : g729 386 42 = g 386 42 := by
                      rw [eg729]
                      exact rg716.s (by decide)
                    omega
                  refine ⟨oh740, ?_⟩
                  intro g741 eg741
                  refine ⟨fun h742 => ?_, fun h742 => ?_⟩
                  · skip
                    refine ⟨fun g' => AP g741 g', ?_, ?_⟩
                    · skip
                      have j : JP c0 g 1 g716 := qg716
                      rw [eg741, eg729]
                      exact v_2310 (SG.ap j.1.1)
                    · skip
                      intro g748 rg748 qg748
                      have hgs := hg0 (by omega)
                      have hsg : RI c0 1 g := by
                        rw [hgs]
                        exact hs
                      have hkg : g 386 8 = 0 := by omega
                      have h45g : g 386 45 = 1 := by
                        rw [hgs]
                        exact h45
                      have hdg := hsg.dn
                      have hzg := hsg.1.sz
                      have hvg : v409_1 = g 386 41 - 1 := by
                        rw [hgs]
                        exact hv
                      have hfg : v409_2 = g 409 (g 386 41 - 1).toNat := by
                        rw [hgs, ← hv]
                        exact hv2
                      have j : JP c0 g 1 g716 := qg716
                      have hd2 := hsg.d2 (by omega)
                      have h41 : g716 386 41 = g 386 41 := rg716.s (by decide)
                      have h42 : g729 386 42 = g 386 42 := by
                        rw [eg729]
                        exact rg716.s (by decide)
                      have h42b : g716 386 42 = g 386 42 := rg716.s (by decide)
                      have e3 : g741 = zup (zup g716 386 41 (g 386 41 - 1)) 386 42 (g716 386 42 - 1) := by
                        rw [eg741, eg729, show x722 = g 386 41 - 1 by omega, show x734 = g716 386 42 - 1 by omega]
                      have e4 := e3
                      have a5 : AP g741 g748 := qg748
                      have f5 := rg748
                      rw [e4] at a5 f5
                      show GP c0 s0 1 g748
                      rw [← hgs]
                      exact T_closeN hsg hkg (by omega) rg716 j (by omega) (by omega) h45g a5 f5
                  · skip
                    intro x753 ex753 fx753 gx753
                    refine ⟨fun g' => g' = addF g741 x753 0, ?_, ?_⟩
                    · skip
                      have hgs := hg0 (by omega)
                      have hsg : RI c0 1 g := by
                        rw [hgs]
                        exact hs
                      have hkg : g 386 8 = 0 := by omega
                      have h45g : g 386 45 = 1 := by
                        rw [hgs]
                        exact h45
                      have hdg := hsg.dn
                      have hzg := hsg.1.sz
                      have hvg : v409_1 = g 386 41 - 1 := by
                        rw [hgs]
                        exact hv
                      have hfg : v409_2 = g 409 (g 386 41 - 1).toNat := by
                        rw [hgs, ← hv]
                        exact hv2
                      have j : JP c0 g 1 g716 := qg716
                      have hd2 := hsg.d2 (by omega)
                      have h41 : g716 386 41 = g 386 41 := rg716.s (by decide)
                      have hd1 := j.1.dn
                      have hz1 := j.1.1.sz
                      have h34 : g741 386 34 = g716 386 34 := by
                        rw [eg741, eg729]
                        rfl
                      exact v_2335 (by omega) (by omega) rfl
                    · skip
                      intro g759 rg759 qg759
                      refine ⟨fun g' => AP g759 g', ?_, ?_⟩
                      · skip
                        have j : JP c0 g 1 g716 := qg716
                        have dg759 : g759 = addF g741 x753 0 := qg759
                        rw [dg759, eg741, eg729]
                        exact v_2310 (SG.ap j.1.1)
                      · skip
                        intro g766 rg766 qg766
                        have hgs := hg0 (by omega)
                        have hsg : RI c0 1 g := by
                          rw [hgs]
                          exact hs
                        have hkg : g 386 8 = 0 := by omega
                        have h45g : g 386 45 = 1 := by
                          rw [hgs]
                          exact h45
                        have hdg := hsg.dn
                        have hzg := hsg.1.sz
                        have hvg : v409_1 = g 386 41 - 1 := by
                          rw [hgs]
                          exact hv
                        have hfg : v409_2 = g 409 (g 386 41 - 1).toNat := by
                          rw [hgs, ← hv]
                          exact hv2
                        have j : JP c0 g 1 g716 := qg716
                        have hd2 := hsg.d2 (by omega)
                        have h41 : g716 386 41 = g 386 41 := rg716.s (by decide)
                        have h42 : g729 386 42 = g 386 42 := by
                          rw [eg729]
                          exact rg716.s (by decide)
                        have h42b : g716 386 42 = g 386 42 := rg716.s (by decide)
                        have e3 : g741 = zup (zup g716 386 41 (g 386 41 - 1)) 386 42 (g716 386 42 - 1) := by
                          rw [eg741, eg729, show x722 = g 386 41 - 1 by omega, show x734 = g716 386 42 - 1 by omega]
                        have hpv : x753 = g 412 (g 386 41 - 1).toNat := by
                          rw [ex753, e3, ← hvg]
                          show g716 412 _ = g 412 _
                          rw [show g716 412 = g 412 from rg716.a (by decide)]
                        have d4 : g759 = addF g741 x753 0 := qg759
                        have e4 : g759 = addF (zup (zup g716 386 41 (g 386 41 - 1)) 386 42 (g716 386 42 - 1)) (g 412 (g 386 41 - 1).toNat) 0 := by
                          rw [d4, e3, hpv]
                        have a5 : AP g759 g766 := qg766
                        have f5 := rg766
                        rw [e4] at a5 f5
                        show GP c0 s0 1 g766
                        rw [← hgs]
                        exact T_closeA hsg hkg (by omega) rg716 j (by omega) h45g a5 f5
        · skip
          intro x768 ex768 fx768 gx768
          refine ⟨fun h772 => ?_, fun h772 => ?_⟩
          · skip
            intro x773 ex773 fx773 gx773
            intro x777 ex777 fx777 gx777
            refine ⟨fun h781 => ?_, fun h781 => ?_⟩
            · skip
              obtain ⟨xx, hx⟩ := hg1 (by omega)
              rw [hx]
              exact T_bl hs hk h45 (by decide) (by decide)
            · skip
              intro g786 eg786
              intro g791 eg791
              have hgs := hg0 (by omega)
              have e2 : g791 = blF s0 1 x773 := by
                rw [eg791, eg786, hgs]
                rfl
              rw [e2]
              exact T_bl hs hk h45 (by decide) (by decide)
          · skip
            intro x793 ex793
            refine ⟨fun h797 => ?_, fun h797 => ?_⟩
            · skip
              intro x798 ex798 fx798 gx798
              intro x802 ex802 fx802 gx802
              refine ⟨fun h806 => ?_, fun h806 => ?_⟩
              · skip
                obtain ⟨xx, hx⟩ := hg1 (by omega)
                rw [hx]
                exact T_bl hs hk h45 (by decide) (by decide)
              · skip
                intro g811 eg811
                intro g816 eg816
                have hgs := hg0 (by omega)
                have e2 : g816 = blF s0 1 x798 := by
                  rw [eg816, eg811, hgs]
                  rfl
                rw [e2]
                exact T_bl hs hk h45 (by decide) (by decide)
            · skip
              intro x818 ex818 fx818 gx818
              refine ⟨fun h822 => ?_, fun h822 => ?_⟩
              · skip
                obtain ⟨xx, hx⟩ := hg1 (by omega)
                rw [hx]
                exact T_bl hs hk h45 (by decide) (by decide)
              · skip
                refine ⟨fun g' => JP c0 g 1 g', ?_, ?_⟩
                · skip
                  have hgs := hg0 (by omega)
                  have hsg : RI c0 1 g := by
                    rw [hgs]
                    exact hs
                  have hkg : g 386 8 = 0 := by omega
                  have h45g : g 386 45 = 1 := by
                    rw [hgs]
                    exact h45
                  have hdg := hsg.dn
                  have hzg := hsg.1.sz
                  have hvg : v409_1 = g 386 41 - 1 := by
                    rw [hgs]
                    exact hv
                  have hfg : v409_2 = g 409 (g 386 41 - 1).toNat := by
                    rw [hgs, ← hv]
                    exact hv2
                  exact v_2337 hsg hkg
                · skip
                  intro g828 rg828 qg828
                  intro x830 ex830 fx830 gx830
                  intro x834 ex834
                  have oh840 : (0 ≤ x834) := by
                    have hgs := hg0 (by omega)
                    have hsg : RI c0 1 g := by
                      rw [hgs]
                      exact hs
                    have hkg : g 386 8 = 0 := by omega
                    have h45g : g 386 45 = 1 := by
                      rw [hgs]
                      exact h45
                    have hdg := hsg.dn
                    have hzg := hsg.1.sz
                    have hvg : v409_1 = g 386 41 - 1 := by
                      rw [hgs]
                      exact hv
                    have hfg : v409_2 = g 409 (g 386 41 - 1).toNat := by
                      rw [hgs, ← hv]
                      exact hv2
                    have hd2 := hsg.d2 (by omega)
                    have h41 : g828 386 41 = g 386 41 := rg828.s (by decide)
                    omega
                  refine ⟨oh840, ?_⟩
                  intro g841 eg841
                  intro x842 ex842 fx842 gx842
                  intro x846 ex846
                  have oh852 : (0 ≤ x846) := by
                    have hgs := hg0 (by omega)
                    have hsg : RI c0 1 g := by
                      rw [hgs]
                      exact hs
                    have hkg : g 386 8 = 0 := by omega
                    have h45g : g 386 45 = 1 := by
                      rw [hgs]
                      exact h45
                    have hdg := hsg.dn
                    have hzg := hsg.1.sz
                    have hvg : v409_1 = g 386 41 - 1 := by
                      rw [hgs]
                      exact hv
                    have hfg : v409_2 = g 409 (g 386 41 - 1).toNat := by
                      rw [hgs, ← hv]
                      exact hv2
                    have hd2 := hsg.d2 (by omega)
                    have h41 : g828 386 41 = g 386 41 := rg828.s (by decide)
                    have h42 : g841 386 42 = g 386 42 := by
                      rw [eg841]
                      exact rg828.s (by decide)
                    omega
                  refine ⟨oh852, ?_⟩
                  intro g853 eg853
                  intro x855 ex855
                  have oh857 : (0 ≤ x855) := by
                    have hgs := hg0 (by omega)
                    have hsg : RI c0 1 g := by
                      rw [hgs]
                      exact hs
                    have hkg : g 386 8 = 0 := by omega
                    have h45g : g 386 45 = 1 := by
                      rw [hgs]
                      exact h45
                    have hdg := hsg.dn
                    have hzg := hsg.1.sz
                    have hvg : v409_1 = g 386 41 - 1 := by
                      rw [hgs]
                      exact hv
                    have hfg : v409_2 = g 409 (g 386 41 - 1).toNat := by
                      rw [hgs, ← hv]
                      exact hv2
                    have hd2 := hsg.d2 (by omega)
                    have h41 : g828 386 41 = g 386 41 := rg828.s (by decide)
                    omega
                  refine ⟨oh857, ?_⟩
                  intro g862 eg862
                  refine ⟨fun g' => AP g862 g', ?_, ?_⟩
                  · skip
                    have j : JP c0 g 1 g828 := qg828
                    rw [eg862, eg853, eg841]
                    exact v_2310 (SG.ap j.1.1)
                  · skip
                    intro g868 rg868 qg868
                    have hgs := hg0 (by omega)
                    have hsg : RI c0 1 g := by
                      rw [hgs]
                      exact hs
                    have hkg : g 386 8 = 0 := by omega
                    have h45g : g 386 45 = 1 := by
                      rw [hgs]
                      exact h45
                    have hdg := hsg.dn
                    have hzg := hsg.1.sz
                    have hvg : v409_1 = g 386 41 - 1 := by
                      rw [hgs]
                      exact hv
                    have hfg : v409_2 = g 409 (g 386 41 - 1).toNat := by
                      rw [hgs, ← hv]
                      exact hv2
                    have j : JP c0 g 1 g828 := qg828
                    have hd2 := hsg.d2 (by omega)
                    have h41 : g828 386 41 = g 386 41 := rg828.s (by decide)
                    have h42 : g841 386 42 = g 386 42 := by
                      rw [eg841]
                      exact rg828.s (by decide)
                    have h42b : g828 386 42 = g 386 42 := rg828.s (by decide)
                    have e3 : g853 = zup (zup g828 386 41 (g 386 41 - 1)) 386 42 (g828 386 42 - 1) := by
                      rw [eg853, eg841, show x834 = g 386 41 - 1 by omega, show x846 = g828 386 42 - 1 by omega]
                    have e4 : g862 = zup (zup (zup g828 386 41 (g 386 41 - 1)) 386 42 (g828 386 42 - 1)) 410 (g 386 41 - 2).toNat 2 := by
                      rw [eg862, e3, show x855 = g 386 41 - 2 by omega]
                    have a5 : AP g862 g868 := qg868
                    have f5 := rg868
                    rw [e4] at a5 f5
                    show GP c0 s0 1 g868
                    rw [← hgs]
                    exact T_close5 hsg hkg (by omega) rg828 j (by omega) h45g a5 f5
      · skip
        intro x870 ex870 fx870 gx870
        refine ⟨fun h874 => ?_, fun h874 => ?_⟩
        · skip
          intro x875 ex875 fx875 gx875
          intro x879 ex879 fx879 gx879
          refine ⟨fun h883 => ?_, fun h883 => ?_⟩
          · skip
            obtain ⟨xx, hx⟩ := hg1 (by omega)
            rw [hx]
            exact T_bl hs hk h45 (by decide) (by decide)
          · skip
            intro g888 eg888
            intro g893 eg893
            have hgs := hg0 (by omega)
            have e2 : g893 = blF s0 1 x875 := by
              rw [eg893, eg888, hgs]
              rfl
            rw [e2]
            exact T_bl hs hk h45 (by decide) (by decide)
        · skip
          intro x895 ex895
          refine ⟨fun h899 => ?_, fun h899 => ?_⟩
          · skip
            intro x900 ex900 fx900 gx900
            intro x904 ex904 fx904 gx904
            refine ⟨fun h908 => ?_, fun h908 => ?_⟩
            · skip
              obtain ⟨xx, hx⟩ := hg1 (by omega)
              rw [hx]
              exact T_bl hs hk h45 (by decide) (by decide)
            · skip
              intro g913 eg913
              intro g918 eg918
              have hgs := hg0 (by omega)
              have e2 : g918 = blF s0 1 x900 := by
                rw [eg918, eg913, hgs]
                rfl
              rw [e2]
              exact T_bl hs hk h45 (by decide) (by decide)
          · skip
            intro x920 ex920 fx920 gx920
            refine ⟨fun h924 => ?_, fun h924 => ?_⟩
            · skip
              obtain ⟨xx, hx⟩ := hg1 (by omega)
              rw [hx]
              exact T_bl hs hk h45 (by decide) (by decide)
            · skip
              refine ⟨fun g' => JP c0 g 1 g', ?_, ?_⟩
              · skip
                have hgs := hg0 (by omega)
                have hsg : RI c0 1 g := by
                  rw [hgs]
                  exact hs
                have hkg : g 386 8 = 0 := by omega
                have h45g : g 386 45 = 1 := by
                  rw [hgs]
                  exact h45
                have hdg := hsg.dn
                have hzg := hsg.1.sz
                have hvg : v409_1 = g 386 41 - 1 := by
                  rw [hgs]
                  exact hv
                have hfg : v409_2 = g 409 (g 386 41 - 1).toNat := by
                  rw [hgs, ← hv]
                  exact hv2
                exact v_2337 hsg hkg
              · skip
                intro g930 rg930 qg930
                intro g936 eg936
                refine ⟨fun g' => AP g936 g', ?_, ?_⟩
                · skip
                  have j : JP c0 g 1 g930 := qg930
                  rw [eg936]
                  exact v_2310 (SG.ap j.1.1)
                · skip
                  intro g942 rg942 qg942
                  intro g948 eg948
                  have hgs := hg0 (by omega)
                  have hsg : RI c0 1 g := by
                    rw [hgs]
                    exact hs
                  have hkg : g 386 8 = 0 := by omega
                  have h45g : g 386 45 = 1 := by
                    rw [hgs]
                    exact h45
                  have hdg := hsg.dn
                  have hzg := hsg.1.sz
                  have hvg : v409_1 = g 386 41 - 1 := by
                    rw [hgs]
                    exact hv
                  have hfg : v409_2 = g 409 (g 386 41 - 1).toNat := by
                    rw [hgs, ← hv]
                    exact hv2
                  have j : JP c0 g 1 g930 := qg930
                  have e2 : g936 = zup g930 409 (g 386 41 - 1).toNat 4 := by
                    rw [eg936, hvg]
                  have a3 : AP g936 g942 := qg942
                  have f3 := rg942
                  rw [e2] at a3 f3
                  show GP c0 s0 1 g948
                  rw [eg948, ← hgs]
                  exact T_comma hsg hkg (by omega) rg930 j (by omega) a3 f3
set_option maxHeartbeats 4000000 in
theorem v_2328 {a0 : Int} {s0 : zF} (hs : SG s0) (hin : s0 386 35 = 0 ∨ s0 386 35 = 1) (hc : 0 ≤ s0 386 34) (hc2 : s0 386 34 ≤ s0 386 4) : b_2328 s0 a0 (fun g => RP s0 g) := by
  refine ⟨fun n g v43_2 => n = (if v43_2 = 1 then zMs g + 1 else 0).toNat ∧ RI (s0 386 34) (g 386 45) g ∧ CS (s0 386 34) s0 g ∧ PW s0 g ∧ (v43_2 = 1 → g 386 8 = 0) ∧ (g 386 45 = 0 ∨ g 386 45 = 1), ?_, ?_⟩
  · skip
    intro x43 ex43 fx43 gx43
    refine ⟨fun h47 => ?_, fun h47 => ?_⟩
    · skip
      refine ⟨hs, PW.refl, Int.le_refl _, hc2, CS.refl, fun z => ?_⟩
      omega
    · skip
      intro g52 eg52
      intro g57 eg57
      intro g62 eg62
      intro g67 eg67
      refine ⟨fun h68 => ?_, fun h68 => ?_⟩
      · skip
        refine ⟨fun g' => g' = puF g67 1, ?_, ?_⟩
        · skip
          have h41 : g67 386 41 = 0 := by
            rw [eg67, eg62, eg57, eg52]
            rfl
          exact v_2329 (by omega) (by omega) rfl
        · skip
          intro g74 rg74 qg74
          have e5 : g74 = puF g67 1 := qg74
          rw [eg67, eg62, eg57, eg52] at e5
          obtain ⟨m1, m2, m3, m4, m5⟩ := T_rbeg hs (by have := hs.sz; omega) hin hc hc2 (by decide) e5
          exact ⟨_, rfl, m1, m2, m3, fun _ => m4, Or.inl m5⟩
      · skip
        refine ⟨fun g' => g' = puF g67 0, ?_, ?_⟩
        · skip
          have h41 : g67 386 41 = 0 := by
            rw [eg67, eg62, eg57, eg52]
            rfl
          exact v_2329 (by omega) (by omega) rfl
        · skip
          intro g81 rg81 qg81
          have e5 : g81 = puF g67 0 := qg81
          rw [eg67, eg62, eg57, eg52] at e5
          obtain ⟨m1, m2, m3, m4, m5⟩ := T_rbeg hs (by have := hs.sz; omega) hin hc hc2 (by decide) e5
          exact ⟨_, rfl, m1, m2, m3, fun _ => m4, Or.inl m5⟩
  · intro n g v43_2 rg qv43_20 qv43_21 hI
    obtain ⟨hn, m1, m2, m3, m4, m5⟩ := hI
    have hms := m1.1.ms
    have h35 : g 386 35 = s0 386 35 := rg.s (by decide)
    refine ⟨fun h1 => ?_, fun h1 => ?_⟩
    · skip
      intro x2 ex2 fx2 gx2
      refine ⟨fun h6 => ?_, fun h6 => ?_⟩
      · skip
        refine ⟨fun v g' => GP (s0 386 34) g v g', ?_, ?_⟩
        · skip
          have e45 : g 386 45 = 1 := by omega
          rw [e45] at m1
          exact v_2336 m1 (m4 (by omega)) e45
        · skip
          intro x12 hx121 hx122 g15 rg15 qg15
          refine ⟨fun h17 => ?_, fun h17 => ?_⟩
          · skip
            intro x18 ex18 fx18 gx18
            refine ⟨fun h22 => ?_, fun h22 => ?_⟩
            · skip
              have hnn : n = (zMs g + 1).toNat := by
                rw [hn, if_pos (by omega)]
              obtain ⟨p1, p2, p3, p4, p5, p6, p7⟩ : GP (s0 386 34) g x12 g15 := qg15
              refine ⟨_, ?_, rfl, p1, m2.trans h35 p2, m3.trans p5, fun z => by omega, p7⟩
              rw [hnn]
              rw [if_neg (show ¬ ((0 : Int) = 1) by decide)]
              omega
            · skip
              have hnn : n = (zMs g + 1).toNat := by
                rw [hn, if_pos (by omega)]
              obtain ⟨p1, p2, p3, p4, p5, p6, p7⟩ : GP (s0 386 34) g x12 g15 := qg15
              refine ⟨_, ?_, rfl, p1, m2.trans h35 p2, m3.trans p5, fun z => by omega, p7⟩
              rw [hnn]
              obtain ⟨-, -, -, p6⟩ := p6 (by omega)
              have hm2 := p1.1.ms
              rw [if_pos rfl]
              unfold zMs at hms hm2 ⊢
              omega
          · skip
            have hnn : n = (zMs g + 1).toNat := by
              rw [hn, if_pos (by omega)]
            obtain ⟨p1, p2, p3, p4, p5, p6, p7⟩ : GP (s0 386 34) g x12 g15 := qg15
            refine ⟨_, ?_, rfl, p1, m2.trans h35 p2, m3.trans p5, fun z => by omega, p7⟩
            rw [hnn]
            rw [if_neg (show ¬ ((0 : Int) = 1) by decide)]
            omega
      · skip
        refine ⟨fun v g' => OP (s0 386 34) g v g', ?_, ?_⟩
        · skip
          have e45 : g 386 45 = 0 := by omega
          rw [e45] at m1
          exact v_2330 m1 (m4 (by omega))
        · skip
          intro x28 hx281 hx282 g31 rg31 qg31
          intro g37 eg37
          intro x38 ex38 fx38 gx38
          refine ⟨fun h42 => ?_, fun h42 => ?_⟩
          · skip
            have hnn : n = (zMs g + 1).toNat := by
              rw [hn, if_pos (by omega)]
            obtain ⟨p1, p2, p3, p5⟩ : OP (s0 386 34) g x28 g31 := qg31
            have e2 : g37 386 45 = x28 := by
              rw [eg37]
              rfl
            rw [← e2] at p1
            have p1 : RI (s0 386 34) (g37 386 45) g37 := by
              have q := zf45 (v := x28) p1
              rw [← eg37] at q
              exact q
            have p2b : CS (s0 386 34) s0 g37 := by
              rw [eg37]
              exact zCS45 (m2.trans h35 p2)
            have p5b : PW s0 g37 := by
              rw [eg37]
              exact m3.trans p5
            have e8 : g37 386 8 = g31 386 8 := by
              rw [eg37]
              rfl
            have eM : zMs g37 = zMs g31 := by
              rw [eg37]
              rfl
            refine ⟨_, ?_, rfl, p1, p2b, p5b, fun z => by omega, by omega⟩
            rw [hnn]
            rw [if_neg (show ¬ ((0 : Int) = 1) by decide)]
            omega
          · skip
            have hnn : n = (zMs g + 1).toNat := by
              rw [hn, if_pos (by omega)]
            obtain ⟨p1, p2, p3, p5⟩ : OP (s0 386 34) g x28 g31 := qg31
            have e2 : g37 386 45 = x28 := by
              rw [eg37]
              rfl
            rw [← e2] at p1
            have p1 : RI (s0 386 34) (g37 386 45) g37 := by
              have q := zf45 (v := x28) p1
              rw [← eg37] at q
              exact q
            have p2b : CS (s0 386 34) s0 g37 := by
              rw [eg37]
              exact zCS45 (m2.trans h35 p2)
            have p5b : PW s0 g37 := by
              rw [eg37]
              exact m3.trans p5
            have e8 : g37 386 8 = g31 386 8 := by
              rw [eg37]
              rfl
            have eM : zMs g37 = zMs g31 := by
              rw [eg37]
              rfl
            refine ⟨_, ?_, rfl, p1, p2b, p5b, fun z => by omega, by omega⟩
            rw [hnn]
            obtain ⟨-, -, -, p6⟩ := p3
            have hm2 := p1.1.ms
            rw [if_pos rfl]
            rw [eM] at hm2 ⊢
            unfold zMs at hms hm2 ⊢
            omega
    · skip
      exact T_rend hs m1 m2 m3 h35 (by omega)
