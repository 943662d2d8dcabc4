/-! pure proofs (wip/safe/vcp.py) -/
set_option maxHeartbeats 4000000 in
theorem v_2309 {s0 : zF} (h : ZR s0) (hx : BX s0) (ht : 0 ≤ s0 386 1 ∧ s0 386 1 ≤ 1600) : b_2309 s0 (fun _ g => (BX g → ZR g) ∧ g 386 1 = 0) := by
  obtain ⟨b0, hb0, hb1, hw, hs0, hu0⟩ := h
  have h : ZR s0 := ⟨b0, hb0, hb1, hw, hs0, hu0⟩
  obtain ⟨i, hi⟩ : ∃ i : Nat, i = 1 - b0 := ⟨_, rfl⟩
  refine ⟨fun n g v76_1 => n = (30000 - v76_1).toNat ∧ g 386 12 = b0 ∧ g 386 35 = i ∧ g 386 5 = 0 ∧ g 386 8 = 0 ∧ (0 ≤ g 386 2 ∧ g 386 2 ≤ 1600) ∧ WFB g b0 1600 ∧ g 402 i = 0 ∧ g 396 i = 0 ∧ g 419 = s0 419 ∧ g 388 b0 = s0 388 b0 ∧ g 386 64 = s0 386 64 ∧ g 386 65 = s0 386 65 ∧ g 386 1 = 0, fun n g v114_1 => n = (if g 386 8 = 0 then 2 * zMs g + 2 else 1).toNat ∧ DI b0 i g ∧ g 419 = s0 419 ∧ g 388 b0 = s0 388 b0 ∧ g 386 64 = s0 386 64 ∧ g 386 65 = s0 386 65 ∧ g 386 1 = 0, fun n g v143_1 => n = 0 ∧ DI b0 i g ∧ g 419 = s0 419 ∧ g 388 b0 = s0 388 b0 ∧ g 386 64 = s0 386 64 ∧ g 386 65 = s0 386 65 ∧ g 386 1 = 0, ?_, ?_, ?_, ?_⟩
  · skip
    intro x99 ex99 fx99 gx99
    intro g107 eg107
    intro g112 eg112
    intro g117 eg117
    intro g122 eg122
    intro g127 eg127
    intro x128 ex128 fx128 gx128
    intro x132 ex132
    intro g138 eg138
    intro g143 eg143
    intro g149 eg149
    intro g155 eg155
    intro x157 ex157
    have hbk : x128 = s0 386 12 := by
      rw [ex128, eg127, eg122, eg117, eg112, eg107]
      rfl
    have hin : x132.toNat = i := by omega
    have s1 : g155 386 1 = 0 := by
      rw [eg155, eg149, eg143, eg138, eg127, eg122, eg117, eg112, eg107]
      rfl
    have s2 : g155 386 2 = x99 := by
      rw [eg155, eg149, eg143, eg138, eg127, eg122, eg117, eg112, eg107]
      rfl
    have s5 : g155 386 5 = 0 := by
      rw [eg155, eg149, eg143, eg138, eg127, eg122, eg117, eg112, eg107]
      rfl
    have s8 : g155 386 8 = 0 := by
      rw [eg155, eg149, eg143, eg138, eg127, eg122, eg117, eg112, eg107]
      rfl
    have s12 : g155 386 12 = s0 386 12 := by
      rw [eg155, eg149, eg143, eg138, eg127, eg122, eg117, eg112, eg107]
      rfl
    have s35 : g155 386 35 = x132 := by
      rw [eg155, eg149, eg143, eg138, eg127, eg122, eg117, eg112, eg107]
      rfl
    have s64 : g155 386 64 = s0 386 64 := by
      rw [eg155, eg149, eg143, eg138, eg127, eg122, eg117, eg112, eg107]
      rfl
    have s65 : g155 386 65 = s0 386 65 := by
      rw [eg155, eg149, eg143, eg138, eg127, eg122, eg117, eg112, eg107]
      rfl
    have u388 : ∀ b : Nat, b ≠ i → g155 388 b = s0 388 b := by
      intro b hb
      rw [eg155, zup_ne (Or.inl (by decide)), eg149, zup_ne (Or.inl (by decide)), eg143, zup_ne (Or.inr (by omega)), eg138, zup_ne (Or.inl (by decide)), eg127, zup_ne (Or.inl (by decide)), eg122, zup_ne (Or.inl (by decide)), eg117, zup_ne (Or.inl (by decide)), eg112, zup_ne (Or.inl (by decide)), eg107, zup_ne (Or.inl (by decide))]
    have u396 : ∀ b : Nat, b ≠ i → g155 396 b = s0 396 b := by
      intro b hb
      rw [eg155, zup_ne (Or.inl (by decide)), eg149, zup_ne (Or.inr (by omega)), eg143, zup_ne (Or.inl (by decide)), eg138, zup_ne (Or.inl (by decide)), eg127, zup_ne (Or.inl (by decide)), eg122, zup_ne (Or.inl (by decide)), eg117, zup_ne (Or.inl (by decide)), eg112, zup_ne (Or.inl (by decide)), eg107, zup_ne (Or.inl (by decide))]
    have u402 : ∀ b : Nat, b ≠ i → g155 402 b = s0 402 b := by
      intro b hb
      rw [eg155, zup_ne (Or.inr (by omega)), eg149, zup_ne (Or.inl (by decide)), eg143, zup_ne (Or.inl (by decide)), eg138, zup_ne (Or.inl (by decide)), eg127, zup_ne (Or.inl (by decide)), eg122, zup_ne (Or.inl (by decide)), eg117, zup_ne (Or.inl (by decide)), eg112, zup_ne (Or.inl (by decide)), eg107, zup_ne (Or.inl (by decide))]
    have u401 : g155 401 = s0 401 := by
      rw [eg155, zup_na (by decide), eg149, zup_na (by decide), eg143, zup_na (by decide), eg138, zup_na (by decide), eg127, zup_na (by decide), eg122, zup_na (by decide), eg117, zup_na (by decide), eg112, zup_na (by decide), eg107, zup_na (by decide)]
    have u404 : g155 404 = s0 404 := by
      rw [eg155, zup_na (by decide), eg149, zup_na (by decide), eg143, zup_na (by decide), eg138, zup_na (by decide), eg127, zup_na (by decide), eg122, zup_na (by decide), eg117, zup_na (by decide), eg112, zup_na (by decide), eg107, zup_na (by decide)]
    have u405 : g155 405 = s0 405 := by
      rw [eg155, zup_na (by decide), eg149, zup_na (by decide), eg143, zup_na (by decide), eg138, zup_na (by decide), eg127, zup_na (by decide), eg122, zup_na (by decide), eg117, zup_na (by decide), eg112, zup_na (by decide), eg107, zup_na (by decide)]
    have u406 : g155 406 = s0 406 := by
      rw [eg155, zup_na (by decide), eg149, zup_na (by decide), eg143, zup_na (by decide), eg138, zup_na (by decide), eg127, zup_na (by decide), eg122, zup_na (by decide), eg117, zup_na (by decide), eg112, zup_na (by decide), eg107, zup_na (by decide)]
    have u407 : g155 407 = s0 407 := by
      rw [eg155, zup_na (by decide), eg149, zup_na (by decide), eg143, zup_na (by decide), eg138, zup_na (by decide), eg127, zup_na (by decide), eg122, zup_na (by decide), eg117, zup_na (by decide), eg112, zup_na (by decide), eg107, zup_na (by decide)]
    have u419 : g155 419 = s0 419 := by
      rw [eg155, zup_na (by decide), eg149, zup_na (by decide), eg143, zup_na (by decide), eg138, zup_na (by decide), eg127, zup_na (by decide), eg122, zup_na (by decide), eg117, zup_na (by decide), eg112, zup_na (by decide), eg107, zup_na (by decide)]
    have v402 : g155 402 i = 0 := by
      rw [eg155, hin, zup_eq]
    have v396 : g155 396 i = 0 := by
      rw [eg155, zup_ne (Or.inl (by decide)), eg149, hin, zup_eq]
    have w : WFB g155 b0 1600 := hw.congr (Int.le_refl _) (by decide) (u402 b0 (by omega)) (u396 b0 (by omega)) (fun d _ => by rw [u401]) (fun k _ => by rw [u404]) (fun k _ => by rw [u405]) (fun k _ => by rw [u406]) (fun p _ _ => by rw [u407])
    exact ⟨_, rfl, by omega, by omega, by omega, by omega, by omega, w, v402, v396, u419, u388 b0 (by omega), by omega, by omega, by omega⟩
  · intro n g v76_1 rg qv76_10 qv76_11 hI
    obtain ⟨hn, c12, c35, c5, c8, c2, cw, c402, c396, d419, d388, d64, d65, d1⟩ := hI
    intro x1 ex1 fx1 gx1
    intro x5 ex5
    intro x7 ex7
    refine ⟨fun h9 => ?_, fun h9 => ?_⟩
    · skip
      intro g14 eg14
      intro x15 ex15
      have F : zFr [(395, 396, 1000)] g g14 := by
        rw [eg14]
        exact zFr_za zFr_refl (by decide)
      refine ⟨_, ?_, rfl, ?_, ?_, ?_, ?_, ?_, cw.fr F (by decide), ?_, ?_, ?_, ?_, ?_, ?_, ?_⟩
      · omega
      · rw [F.s (a := 386) (k := 12) (by decide)]; exact c12
      · rw [F.s (a := 386) (k := 35) (by decide)]; exact c35
      · rw [F.s (a := 386) (k := 5) (by decide)]; exact c5
      · rw [F.s (a := 386) (k := 8) (by decide)]; exact c8
      · rw [F.s (a := 386) (k := 2) (by decide)]; exact c2
      · rw [F.a (a := 402) (by decide)]; exact c402
      · rw [F.a (a := 396) (by decide)]; exact c396
      · rw [F.a (a := 419) (by decide)]; exact d419
      · rw [F.a (a := 388) (by decide)]; exact d388
      · rw [F.s (a := 386) (k := 64) (by decide)]; exact d64
      · rw [F.s (a := 386) (k := 65) (by decide)]; exact d65
      · rw [F.s (a := 386) (k := 1) (by decide)]; exact d1
    · skip
      intro g21 eg21
      refine ⟨fun g' => AP g21 g', ?_, ?_⟩
      · skip
        rw [eg21]
        exact v_2310 (by
          show 0 ≤ g 386 5 ∧ g 386 5 ≤ g 386 2 ∧ g 386 2 ≤ 1600 ∧ 0 ≤ g 386 8 ∧ g 386 8 ≤ 5
          omega)
      · skip
        intro g27 rg27 qg27
        have F1 : zFr [(386, 387, 34), (386, 387, 3), (386, 387, 4), (386, 387, 5), (386, 387, 6), (386, 387, 7), (386, 387, 8), (386, 387, 9)] g g21 := by
          rw [eg21]
          exact zFr_zup zFr_refl (zINs_ok (by decide))
        have F2 : zFr [(386, 387, 34), (386, 387, 3), (386, 387, 4), (386, 387, 5), (386, 387, 6), (386, 387, 7), (386, 387, 8), (386, 387, 9)] g g27 := F1.trans (rg27.mono (by decide))
        have a2 : AP g21 g27 := qg27
        have a3 := a2.1.sz
        have s34 : g27 386 34 = 0 := by
          rw [rg27.s (a := 386) (k := 34) (by decide), eg21, zup_eq]
        have b12 : g27 386 12 = g 386 12 := F2.s (by decide)
        have b35 : g27 386 35 = g 386 35 := F2.s (by decide)
        have b402 : g27 402 = g 402 := F2.a (by decide)
        have b396 : g27 396 = g 396 := F2.a (by decide)
        have w : WFB g27 i (g27 386 34) := by
          unfold WFB
          rw [b402, b396, c402, c396, s34]
          exact ⟨by decide, by decide, fun k hk => absurd hk (by omega), by decide, by decide, fun d hd => absurd hd (by omega)⟩
        refine ⟨_, ?_, rfl, ⟨a2.1, b12.trans c12, b35.trans c35, by omega, by omega, cw.fr F2 (by decide), fun _ => w⟩, ?_, ?_, ?_, ?_, ?_⟩
        · have hm2 := a2.1.ms
          unfold zMs
          split <;> omega
        · rw [F2.a (a := 419) (by decide)]; exact d419
        · rw [F2.a (a := 388) (by decide)]; exact d388
        · rw [F2.s (a := 386) (k := 64) (by decide)]; exact d64
        · rw [F2.s (a := 386) (k := 65) (by decide)]; exact d65
        · rw [F2.s (a := 386) (k := 1) (by decide)]; exact d1
  · intro n g v114_1 rg  hI
    obtain ⟨hn, hd, d419, d388, d64, d65, d1⟩ := hI
    have hsz := hd.1.sz
    have hms := hd.1.ms
    intro x29 ex29 fx29 gx29
    refine ⟨fun h33 => ?_, fun h33 => ?_⟩
    · skip
      refine ⟨0, ?_, rfl, hd, d419, d388, d64, d65, d1⟩
      rw [hn]
      split <;> omega
    · skip
      intro x34 ex34 fx34 gx34
      refine ⟨fun h38 => ?_, fun h38 => ?_⟩
      · skip
        refine ⟨fun g' => MP g g' ∧ DI b0 i g' ∧ g' 388 b0 = g 388 b0, ?_, ?_⟩
        · skip
          exact v_2314 hd (by omega) hb1 (by omega) (by omega) (by omega)
        · skip
          intro g44 rg44 qg44
          intro x46 ex46
          refine ⟨fun g' => MP g44 g', ?_, ?_⟩
          · skip
            obtain ⟨m1, m2, m3⟩ := (qg44 : MP g g44 ∧ DI b0 i g44 ∧ g44 388 b0 = g 388 b0)
            exact v_2339 m1.1
          · skip
            intro g53 rg53 qg53
            obtain ⟨m1, m2, m3⟩ := (qg44 : MP g g44 ∧ DI b0 i g44 ∧ g44 388 b0 = g 388 b0)
            have m4 : MP g44 g53 := qg53
            have m5 := m1.trans m4.wp
            have hd2 : DI b0 i g53 := m2.fr m4.wp rg53 (by decide) (by decide) (by decide) (by decide) (by decide) (by decide) (by decide) (by decide) (by decide) (by decide)
            have hz2 := m5.1.sz
            have hm2 := m5.1.ms
            have m6 := m5.2.2
            refine ⟨_, ?_, rfl, hd2, ?_, ?_, ?_, ?_, ?_⟩
            · rw [hn, if_pos (by omega : g 386 8 = 0)]
              split <;> omega
            · rw [rg53.a (a := 419) (by decide), rg44.a (a := 419) (by decide)]
              exact d419
            · rw [rg53.a (a := 388) (by decide), m3]
              exact d388
            · rw [rg53.s (a := 386) (k := 64) (by decide), rg44.s (a := 386) (k := 64) (by decide)]
              exact d64
            · rw [rg53.s (a := 386) (k := 65) (by decide), rg44.s (a := 386) (k := 65) (by decide)]
              exact d65
            · rw [rg53.s (a := 386) (k := 1) (by decide), rg44.s (a := 386) (k := 1) (by decide)]
              exact d1
      · skip
        refine ⟨0, ?_, rfl, hd, d419, d388, d64, d65, d1⟩
        rw [hn]
        split <;> omega
  · intro n g v143_1 rg  hI
    obtain ⟨hn, hd, d419, d388, d64, d65, d1⟩ := hI
    have hsz := hd.1.sz
    intro x55 ex55 fx55 gx55
    intro g63 eg63
    intro x64 ex64 fx64 gx64
    intro g72 eg72
    refine ⟨fun h74 => ?_, fun h74 => ?_⟩
    · skip
      intro x78 hx781 hx782 g81 rg81 
      have F : zFr [(415, 416, 1000), (386, 387, 10), (386, 387, 11)] g g81 := (show zFr [(415, 416, 1000), (386, 387, 10), (386, 387, 11)] g g72 from by
        rw [eg72]
        exact zFr_zup (by rw [eg63]; exact zFr_zup zFr_refl (zINs_ok (by decide))) (zINs_ok (by decide))).trans (rg81.mono (by decide))
      have e419 : g81 419 = s0 419 := (F.a (by decide)).trans d419
      have e388 : g81 388 b0 = s0 388 b0 := (congrFun (F.a (a := 388) (by decide)) b0).trans d388
      refine ⟨fun _ => ⟨b0, (F.s (by decide)).trans hd.2.1, hb1, hd.2.2.2.2.2.1.fr F (by decide), ?_, fun k hk => ?_⟩, (F.s (by decide)).trans d1⟩
      · unfold Sur at hs0 ⊢
        rw [e419, e388]
        exact hs0
      · rw [(F.s (a := 386) (k := 65) (by decide)).trans d65] at hk
        have := hu0 k hk
        unfold Sur at this ⊢
        rw [e419, e388, (F.s (a := 386) (k := 64) (by decide)).trans d64]
        exact this
    · skip
      intro x83 ex83 fx83 gx83
      intro g91 eg91
      refine ⟨fun g' => (∀ b : Nat, b < 12 → g' 419 b = b) ∧ g' 386 65 = 0, ?_, ?_⟩
      · skip
        exact v_2341
      · skip
        intro g97 rg97 qg97
        obtain ⟨k1, k2⟩ := (qg97 : (∀ b : Nat, b < 12 → g97 419 b = b) ∧ g97 386 65 = 0)
        have F2 : zFr [(415, 416, 1000), (386, 387, 10), (386, 387, 11)] g g72 := by
          rw [eg72]
          exact zFr_zup (by rw [eg63]; exact zFr_zup zFr_refl (zINs_ok (by decide))) (zINs_ok (by decide))
        have F3 : zFr [(415, 416, 1000), (386, 387, 10), (386, 387, 11), (386, 387, 12)] g g91 := by
          rw [eg91]
          exact zFr_zup (F2.mono (by decide)) (zINs_ok (by decide))
        have w3 : WFB g91 i 1600 := by
          have w := hd.2.2.2.2.2.2 (by omega)
          exact w.congr w.1 (by decide) (congrFun (F3.a (by decide)) i) (congrFun (F3.a (by decide)) i) (fun _ _ => congrFun (F3.a (by decide)) _) (fun _ _ => congrFun (F3.a (by decide)) _) (fun _ _ => congrFun (F3.a (by decide)) _) (fun _ _ => congrFun (F3.a (by decide)) _) (fun _ _ _ => congrFun (F3.a (by decide)) _)
        have b12 : g97 386 12 = i := by
          rw [rg97.s (a := 386) (k := 12) (by decide), eg91, zup_eq]
          have := hd.2.2.1
          have q35 : g72 386 35 = g 386 35 := F2.s (by decide)
          omega
        refine ⟨fun hbx => ⟨i, b12, by omega, w3.fr rg97 (by decide), ?_, fun k hk => ?_⟩, ?_⟩
        · intro b hb
          have hbb := (hbx.1 i (by omega)).2
          exact ⟨b, hb, by rw [show 12 * 0 + b = b by omega]; exact k1 b (by omega)⟩
        · rw [k2] at hk
          omega
        · rw [rg97.s (a := 386) (k := 1) (by decide), F3.s (a := 386) (k := 1) (by decide)]
          exact d1
