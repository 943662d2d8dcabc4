/-! partial proofs of the reference (wip/safe/vcp.py) -/
set_option maxHeartbeats 4000000 in
theorem w_2309 {s0 : zF} {t : zK} {P : Nat → Nat} {e : Nat} (h1 : 0 ≤ s0 386 1) (tk : Toks (s0 387) (s0 386 1).toNat t.1 t.2.1 t.2.2 P e) : p_2309 s0 (fun v g => RFQ t e s0 v g) := by
  refine ⟨fun g v76_1 => g 386 2 = s0 386 1 ∧ BKR s0 g ∧ g 386 5 = 0 ∧ g 386 8 = 0 ∧ ∃ w : Nat, w < 2 ∧ g 386 35 = (w : Int) ∧ g 388 w = 0 ∧ g 396 w = 0 ∧ g 402 w = 0, fun g v114_1 => g 386 2 = s0 386 1 ∧ BKR s0 g ∧ 0 ≤ v114_1 ∧ v114_1 ≤ 90 ∧ ∃ r d, RSq t P e r g ∧ PRR t v114_1 d r ∧ (g 386 8 = 0 → DIR t e g d), fun g v143_1 => BKR s0 g ∧ 0 ≤ v143_1 ∧ ((g 386 8 = 0 ∧ ∃ d, prF t 91 ds0 0 = .inl (v143_1.toNat, d) ∧ DIR t e g d) ∨ 0 < g 386 8 ∧ prF t 91 ds0 0 = .inr (g 386 8, g 386 9)), ?_, ?_, ?_, ?_⟩
  · skip
    intro x99 ex99 o2 o3 g107 eg107 g112 eg112 g117 eg117 g122 eg122 g127 eg127 x128 ex128 o10 o11 x132 ex132 g138 eg138 g143 eg143 g149 eg149 g155 eg155 x157 ex157
    have s12 : x128 = s0 386 12 := by rw [ex128, eg127, zup_ne (Or.inr (by decide)), eg122, zup_ne (Or.inr (by decide)), eg117, zup_ne (Or.inr (by decide)), eg112, zup_ne (Or.inr (by decide)), eg107, zup_ne (Or.inr (by decide))]
    have s35 : g155 386 35 = x132 := by rw [eg155, zup_ne (Or.inl (by decide)), eg149, zup_ne (Or.inl (by decide)), eg143, zup_ne (Or.inl (by decide)), eg138, zup_eq]
    refine ⟨by rw [eg155, zup_ne (Or.inl (by decide)), eg149, zup_ne (Or.inl (by decide)), eg143, zup_ne (Or.inl (by decide)), eg138, zup_ne (Or.inr (by decide)), eg127, zup_ne (Or.inr (by decide)), eg122, zup_ne (Or.inr (by decide)), eg117, zup_ne (Or.inr (by decide)), eg112, zup_ne (Or.inr (by decide)), eg107, zup_eq]; omega, ⟨by rw [eg155, zup_ne (Or.inl (by decide)), eg149, zup_ne (Or.inl (by decide)), eg143, zup_ne (Or.inl (by decide)), eg138, zup_ne (Or.inr (by decide)), eg127, zup_ne (Or.inr (by decide)), eg122, zup_ne (Or.inr (by decide)), eg117, zup_ne (Or.inr (by decide)), eg112, zup_ne (Or.inr (by decide)), eg107, zup_ne (Or.inr (by decide))], by rw [s35]; omega, ⟨fun k hk => ?_, fun k hk hk2 => ?_, fun k hk => ?_, fun k hk hk2 => ?_⟩⟩, by rw [eg155, zup_ne (Or.inl (by decide)), eg149, zup_ne (Or.inl (by decide)), eg143, zup_ne (Or.inl (by decide)), eg138, zup_ne (Or.inr (by decide)), eg127, zup_ne (Or.inr (by decide)), eg122, zup_ne (Or.inr (by decide)), eg117, zup_eq], by rw [eg155, zup_ne (Or.inl (by decide)), eg149, zup_ne (Or.inl (by decide)), eg143, zup_ne (Or.inl (by decide)), eg138, zup_ne (Or.inr (by decide)), eg127, zup_ne (Or.inr (by decide)), eg122, zup_eq], x132.toNat, by omega, by rw [s35]; omega, by rw [eg155, zup_ne (Or.inl (by decide)), eg149, zup_ne (Or.inl (by decide)), eg143, zup_eq], by rw [eg155, zup_ne (Or.inl (by decide)), eg149, zup_eq], by rw [eg155, zup_eq]⟩
    · rw [eg155, zup_ne (Or.inl (by decide)), eg149, zup_ne (Or.inl (by decide)), eg143, zup_ne (Or.inr (by omega)), eg138, zup_na (by decide), eg127, zup_na (by decide), eg122, zup_na (by decide), eg117, zup_na (by decide), eg112, zup_na (by decide), eg107, zup_na (by decide)]
    · rw [eg155, zup_ne (Or.inl (by decide)), eg149, zup_ne (Or.inl (by decide)), eg143, zup_ne (Or.inl (by decide)), eg138, zup_na (by decide), eg127, zup_na (by decide), eg122, zup_na (by decide), eg117, zup_na (by decide), eg112, zup_na (by decide), eg107, zup_na (by decide)]
    · rw [eg155, zup_ne (Or.inl (by decide)), eg149, zup_ne (Or.inr (by omega)), eg143, zup_ne (Or.inl (by decide)), eg138, zup_na (by decide), eg127, zup_na (by decide), eg122, zup_na (by decide), eg117, zup_na (by decide), eg112, zup_na (by decide), eg107, zup_na (by decide)]
    · rw [eg155, zup_ne (Or.inl (by decide)), eg149, zup_ne (Or.inl (by decide)), eg143, zup_ne (Or.inl (by decide)), eg138, zup_na (by decide), eg127, zup_na (by decide), eg122, zup_na (by decide), eg117, zup_na (by decide), eg112, zup_na (by decide), eg107, zup_na (by decide)]
  · intro g v76_1 rg o1 o2 hI
    obtain ⟨h2, ⟨k1, k2, k3⟩, h5, h8, w, hw, h35, z8, z6, z2⟩ := hI
    have t387 : g 387 = s0 387 := rg.a (by decide)
    intro x1 ex1 o4 o5 x5 ex5 x7 ex7
    refine ⟨fun h8z => ?_, fun h8z => ?_⟩
    · skip
      intro g14 eg14 x15 ex15
      refine ⟨by rw [eg14, zup_ne (Or.inl (by decide)), h2], ⟨by rw [eg14, zup_ne (Or.inl (by decide)), k1], by rw [eg14, zup_ne (Or.inl (by decide)), k2], HSB_eq k3 (by rw [eg14, zup_na (by decide)]) (by rw [eg14, zup_na (by decide)]) (by rw [eg14, zup_na (by decide)]) (by rw [eg14, zup_na (by decide)])⟩, by rw [eg14, zup_ne (Or.inl (by decide)), h5], by rw [eg14, zup_ne (Or.inl (by decide)), h8], w, hw, by rw [eg14, zup_ne (Or.inl (by decide)), h35], by rw [eg14, zup_na (by decide), z8], by rw [eg14, zup_na (by decide), z6], by rw [eg14, zup_na (by decide), z2]⟩
    · skip
      intro g21 eg21
      refine ⟨fun g' => AH (g21 387) (g21 386 2).toNat (g21 386 5).toNat g', ?_, ?_⟩
      · skip
        exact w_2310 (by rw [eg21, zup_ne (Or.inr (by decide))]; exact h8) (by rw [eg21, zup_ne (Or.inr (by decide))]; omega) (by rw [eg21, zup_ne (Or.inr (by decide))]; omega)
      · skip
        intro g27 rg27 qg27
        have ha : AH (s0 387) (s0 386 1).toNat 0 g27 := by
          have q : AH (g21 387) (g21 386 2).toNat (g21 386 5).toNat g27 := qg27
          rw [show g21 387 = s0 387 by rw [eg21, zup_na (by decide), t387], show g21 386 2 = s0 386 1 by rw [eg21, zup_ne (Or.inr (by decide)), h2], show g21 386 5 = 0 by rw [eg21, zup_ne (Or.inr (by decide)), h5]] at q
          exact q
        have tk0 := tk
        obtain ⟨⟨p0, p1, p2⟩, p3, p4⟩ := tk0
        have T0 : TokAt (s0 387) (s0 386 1).toNat t.1 t.2.1 t.2.2 0 (P 0) (P (0 + 1)) := by
          by_cases z : 0 = e
          · rw [z]
            exact p3
          · exact p1 0 (by omega)
        rw [← p0] at ha
        have pr := ahead_tok (e := e) T0 ha
        refine ⟨by rw [rg27.s (by decide), eg21, zup_ne (Or.inr (by decide)), h2], ⟨by rw [rg27.s (by decide), eg21, zup_ne (Or.inr (by decide)), k1], by rw [rg27.s (by decide), eg21, zup_ne (Or.inr (by decide)), k2], HSB_eq k3 (by rw [rg27.a (by decide), eg21, zup_na (by decide)]) (by rw [rg27.a (by decide), eg21, zup_na (by decide)]) (by rw [rg27.a (by decide), eg21, zup_na (by decide)]) (by rw [rg27.a (by decide), eg21, zup_na (by decide)])⟩, by decide, by decide, .inl 0, ds0, ⟨by omega, pr⟩, prr_0, fun _ => ⟨w, hw, by rw [rg27.s (by decide), eg21, zup_ne (Or.inr (by decide)), h35], NLr_e ?_, NLr_e ?_, ?_⟩⟩
        · rw [rg27.a (by decide), eg21, zup_na (by decide), z8]
        · rw [rg27.a (by decide), eg21, zup_na (by decide), z6]
        · rw [rg27.a (by decide), eg21, zup_na (by decide), z2]
          rfl
  · intro g v114_1 rg hI
    obtain ⟨h2, ⟨k1, k2, k3⟩, hv0, hv9, r, d, R, hp, hD⟩ := hI
    have t387 : g 387 = s0 387 := rg.a (by decide)
    intro x29 ex29 o2 o3
    refine ⟨fun h4z => ?_, fun h4z => ?_⟩
    · skip
      refine ⟨⟨k1, k2, k3⟩, hv0, Or.inr ?_⟩
      cases r with
      | inr f =>
        have a1 := R.1
        have a2 := R.2.1
        have a3 := R.2.2
        refine ⟨by omega, ?_⟩
        have hp2 : prF t 91 ds0 0 = .inr f := hp
        rw [hp2, a1, a2]
      | inl i =>
        obtain ⟨y1, y2, y3⟩ := prt_bad R.2 (by omega)
        refine ⟨by omega, ?_⟩
        rw [prr_bad hp y1 hv0 hv9, y2, y3]
    · skip
      intro x34 ex34 o6 o7
      refine ⟨fun h8z => ?_, fun h8z => ?_⟩
      · skip
        obtain ⟨i, rfl, hi, A⟩ := rs_ok R (by omega)
        have D := hD (by omega)
        have nz : t.1 i ≠ 0 := fun z => by
          have := (att_k3 A).1.mp z
          omega
        refine ⟨fun g' => (∃ r, RSq t P e r g' ∧ zbd r (nSc t) = zbd (stF t d i) (nSc t)) ∧ (g' 386 8 = 0 → DIR t e g' (stD t d i)) ∧ HFS g g', ?_, ?_⟩
        · skip
          exact w_2314 tk t387 (by rw [h2]; omega) hi A D
        · skip
          intro g44 rg44 qg44 x46 ex46
          obtain ⟨⟨r1, R1, hz⟩, D1, u1⟩ := qg44
          refine ⟨fun g' => RSq t P e (zbd r1 (enF t x46)) g', ?_, ?_⟩
          · skip
            exact w_2339 tk (by rw [rg44.a (by decide), t387]) (by rw [rg44.s (by decide), h2]; omega) R1
          · skip
            intro g53 rg53 qg53
            obtain ⟨lt, hp2⟩ := prr_s hp nz hv0 hv9 hz
            have hx : x46 = v114_1 + 1 := (ex46).trans (zxadd_e (by omega) (by omega) (by omega))
            rw [← hx] at hp2
            have q2 : RSq t P e (zbd r1 (enF t x46)) g53 := qg53
            refine ⟨by rw [rg53.s (by decide), rg44.s (by decide), h2], ⟨by rw [rg53.s (by decide), rg44.s (by decide), k1], by rw [rg53.s (by decide), rg44.s (by decide), k2], HSB_eq (HSB_hf k3 k2 u1) (rg53.a (by decide)) (rg53.a (by decide)) (rg53.a (by decide)) (rg53.a (by decide))⟩, by omega, by omega, _, _, q2, hp2, fun z => ?_⟩
            have z1 : g44 386 8 = 0 := by
              by_cases y : g44 386 8 = 0
              · exact y
              · exfalso
                have yn : 0 < g44 386 8 := by
                  have R1b := R1
                  cases r1 with
                  | inl j =>
                    rcases R1b.2 with y2 | ⟨-, y2, -⟩
                    · exact absurd y2.2.1 y
                    · omega
                  | inr f =>
                    have := R1b.1
                    have := R1b.2.2
                    omega
                have q3 := rs_fault R1 yn (F := enF t x46) (fun i h => en_bad h)
                have q4 : ∃ f, zbd r1 (enF t x46) = .inr f := by
                  cases r1 with
                  | inr f => exact ⟨f, rfl⟩
                  | inl j =>
                    rcases R1.2 with y2 | ⟨y2, -⟩
                    · exact absurd y2.2.1 y
                    · exact ⟨_, en_bad y2⟩
                obtain ⟨f, q5⟩ := q4
                rw [q5] at q2
                have := q2.1
                have := q2.2.2
                omega
            exact DIR_fr (D1 z1) (rg53.s (by decide)) (rg53.a (by decide)) (rg53.a (by decide)) (rg53.a (by decide)) (rg53.a (by decide)) (rg53.a (by decide))
      · skip
        obtain ⟨i, rfl, hi, A⟩ := rs_ok R (by omega)
        have z0 : t.1 i = 0 := (att_k3 A).1.mpr (by omega)
        exact ⟨⟨k1, k2, k3⟩, hv0, Or.inl ⟨by omega, d, prr_end hp z0 hv0 hv9, hD (by omega)⟩⟩
  · intro g v143_1 rg hI
    obtain ⟨⟨k1, k2, k3⟩, hv0, hres⟩ := hI
    intro x55 ex55 o2 o3 g63 eg63 x64 ex64 o6 o7 g72 eg72
    refine ⟨fun h9z => ?_, fun h9z => ?_⟩
    · skip
      intro x78 o10 o11 g81 rg81
      rcases hres with ⟨y, -⟩ | ⟨y1, y2⟩
      · exfalso
        omega
      refine Or.inr ⟨(g 386 8, g 386 9), y2, by omega, ?_, ?_, ?_, ?_⟩
      · rw [rg81.s (by decide), eg72, zup_ne (Or.inr (by decide)), eg63, zup_eq]
        omega
      · rw [rg81.s (by decide), eg72, zup_eq, ex64, eg63, zup_ne (Or.inr (by decide))]
      · rw [rg81.s (by decide), eg72, zup_ne (Or.inr (by decide)), eg63, zup_ne (Or.inr (by decide)), k1]
      · exact HSB_eq k3 (by rw [rg81.a (by decide), eg72, zup_na (by decide), eg63, zup_na (by decide)]) (by rw [rg81.a (by decide), eg72, zup_na (by decide), eg63, zup_na (by decide)]) (by rw [rg81.a (by decide), eg72, zup_na (by decide), eg63, zup_na (by decide)]) (by rw [rg81.a (by decide), eg72, zup_na (by decide), eg63, zup_na (by decide)])
    · skip
      intro x83 ex83 o11 o12 g91 eg91
      intro g97 rg97
      rcases hres with ⟨y, d, y1, y2⟩ | ⟨y, -⟩
      rotate_left
      · exfalso
        omega
      have u35 : g97 386 35 = g 386 35 := by rw [rg97.s (by decide), eg91, zup_ne (Or.inr (by decide)), eg72, zup_ne (Or.inr (by decide)), eg63, zup_ne (Or.inr (by decide))]
      have u12 : g97 386 12 = x83 := by rw [rg97.s (by decide), eg91, zup_eq]
      have ux : x83 = g 386 35 := by rw [ex83, eg72, zup_ne (Or.inr (by decide)), eg63, zup_ne (Or.inr (by decide))]
      refine Or.inl ⟨v143_1.toNat, d, y1, by omega, ?_, ?_, by omega⟩
      · rw [rg97.s (by decide), eg91, zup_ne (Or.inr (by decide)), eg72, zup_ne (Or.inr (by decide)), eg63, zup_eq]
        omega
      · exact DIR_fr y2 u35 (by rw [rg97.a (by decide), eg91, zup_na (by decide), eg72, zup_na (by decide), eg63, zup_na (by decide)]) (by rw [rg97.a (by decide), eg91, zup_na (by decide), eg72, zup_na (by decide), eg63, zup_na (by decide)]) (by rw [rg97.a (by decide), eg91, zup_na (by decide), eg72, zup_na (by decide), eg63, zup_na (by decide)]) (by rw [rg97.a (by decide), eg91, zup_na (by decide), eg72, zup_na (by decide), eg63, zup_na (by decide)]) (by rw [rg97.a (by decide), eg91, zup_na (by decide), eg72, zup_na (by decide), eg63, zup_na (by decide)])
