/-! pure proofs (wip/safe/vcp.py) -/
set_option maxHeartbeats 4000000 in
theorem v_2426 {s0 : zF} (h : ZR s0) (hx : BX s0) (h0 : ∀ k, 0 ≤ s0 387 k) : b_2426 s0 (fun _ g => ZR g ∧ g 386 1 = 0) := by
  refine ⟨fun n g v56_2 => n = (100 - v56_2).toNat ∧ IMG s0 ∧ (∀ p : Nat, (p : Int) < v56_2 → g 419 p = s0 387 (2 + 7 * p)) ∧ g 386 1 = 0, fun n g v209_2 => n = (50 - v209_2).toNat ∧ IMG s0 ∧ (∀ p : Nat, (p : Int) < s0 388 (s0 386 12).toNat → g 419 p = s0 387 (2 + 7 * p)) ∧ g 386 1 = 0, ?_, ?_, ?_⟩
  · skip
    intro x183 ex183 fx183 gx183
    intro g191 eg191
    refine ⟨fun v g' => g' = g191 ∧ (v = 1 → IMG g191), ?_, ?_⟩
    · skip
      exact v_2427
    · skip
      intro x197 hx1971 hx1972 g200 rg200 qg200
      refine ⟨fun h202 => ?_, fun h202 => ?_⟩
      · skip
        intro x206 ex206 fx206 gx206
        intro x207 
        intro x211 ex211 fx211 gx211
        intro x212 
        intro g217 eg217
        obtain ⟨q1, q2⟩ := (qg200 : g200 = g191 ∧ _)
        have q3 := q2 (by omega)
        have qi : IMG s0 := by
          rw [eg191] at q3
          exact q3
        refine ⟨_, rfl, qi, fun p hp => by omega, ?_⟩
        rw [eg217, zup_ne (Or.inl (by decide)), q1, eg191, zup_eq]
      · skip
        intro x221 hx2211 hx2212 g224 rg224 
        obtain ⟨q1, q2⟩ := (qg200 : g200 = g191 ∧ _)
        have F : zFr [(386, 387, 1), (415, 416, 1000)] s0 g224 := by
          have f2 : zFr [(386, 387, 1), (415, 416, 1000)] s0 g200 := by
            rw [q1, eg191]
            exact zFr_zup zFr_refl (zINs_ok (by decide))
          exact f2.trans (rg224.mono (by decide))
        refine ⟨h.fr F rfl, ?_⟩
        rw [rg224.s (a := 386) (k := 1) (by decide), q1, eg191, zup_eq]
  · intro n g v56_2 rg qv56_20 qv56_21 hI
    obtain ⟨hn, hi, hp, h1t⟩ := hI
    intro x1 ex1 fx1 gx1
    intro x8 ex8 fx8 gx8
    refine ⟨fun h9 => ?_, fun h9 => ?_⟩
    · skip
      intro x10 ex10
      intro x12 ex12
      intro x17 ex17 fx17 gx17
      intro g21 rg21 
      have oh23 : (x17 ≤ 11) := by
        have F0 : zFr [(386, 387, 1), (415, 416, 1000), (418, 432, 1000), (386, 387, 65), (386, 387, 68)] s0 g := rg
        have eN : x8 = s0 388 (s0 386 12).toNat := by
          rw [ex8, ex1, rg.a (a := 388) (by decide), rg.s (a := 386) (k := 12) (by decide)]
        have ib := hi.1 v56_2.toNat (by omega)
        unfold IB at ib
        have t : x17 = s0 387 (2 + 7 * v56_2.toNat) := by
          rw [ex17, F0.a (a := 387) (by decide), show x12.toNat = 2 + 7 * v56_2.toNat by omega]
        obtain ⟨hx1, -⟩ := hx
        obtain ⟨zb, zb1, zb2, -⟩ := h
        have hxb := hx1 (s0 386 12).toNat (by omega)
        omega
      refine ⟨oh23, ?_⟩
      intro g28 eg28
      intro x29 ex29
      intro x34 ex34 fx34 gx34
      intro g39 eg39
      intro x40 ex40
      intro x45 ex45 fx45 gx45
      intro x46 ex46
      have oh48 : (x46 ≤ 5) := by
        have F0 : zFr [(386, 387, 1), (415, 416, 1000), (418, 432, 1000), (386, 387, 65), (386, 387, 68)] s0 g := rg
        have F1 : zFr [(386, 387, 1), (415, 416, 1000), (418, 432, 1000), (386, 387, 65), (386, 387, 68)] s0 g21 := F0.trans (rg21.mono (by decide))
        have F2 : zFr [(386, 387, 1), (415, 416, 1000), (418, 432, 1000), (386, 387, 65), (386, 387, 68)] s0 g28 := by
          rw [eg28]
          exact zFr_za F1 (by decide)
        have F3 : zFr [(386, 387, 1), (415, 416, 1000), (418, 432, 1000), (386, 387, 65), (386, 387, 68)] s0 g39 := by
          rw [eg39]
          exact zFr_za F2 (by decide)
        have eN : x8 = s0 388 (s0 386 12).toNat := by
          rw [ex8, ex1, rg.a (a := 388) (by decide), rg.s (a := 386) (k := 12) (by decide)]
        have ib := hi.1 v56_2.toNat (by omega)
        unfold IB at ib
        have t : x45 = s0 387 (2 + 7 * v56_2.toNat + 2) := by
          rw [ex45, F3.a (a := 387) (by decide), show x40.toNat = 2 + 7 * v56_2.toNat + 2 by omega]
        obtain ⟨hx1, -⟩ := hx
        obtain ⟨zb, zb1, zb2, -⟩ := h
        have hxb := hx1 (s0 386 12).toNat (by omega)
        omega
      refine ⟨oh48, ?_⟩
      intro g53 eg53
      intro x54 ex54
      intro x59 ex59 fx59 gx59
      intro g64 eg64
      intro x65 ex65
      intro x70 ex70 fx70 gx70
      intro x71 ex71
      have oh73 : (x71 ≤ 5) := by
        have F0 : zFr [(386, 387, 1), (415, 416, 1000), (418, 432, 1000), (386, 387, 65), (386, 387, 68)] s0 g := rg
        have F1 : zFr [(386, 387, 1), (415, 416, 1000), (418, 432, 1000), (386, 387, 65), (386, 387, 68)] s0 g21 := F0.trans (rg21.mono (by decide))
        have F2 : zFr [(386, 387, 1), (415, 416, 1000), (418, 432, 1000), (386, 387, 65), (386, 387, 68)] s0 g28 := by
          rw [eg28]
          exact zFr_za F1 (by decide)
        have F3 : zFr [(386, 387, 1), (415, 416, 1000), (418, 432, 1000), (386, 387, 65), (386, 387, 68)] s0 g39 := by
          rw [eg39]
          exact zFr_za F2 (by decide)
        have F4 : zFr [(386, 387, 1), (415, 416, 1000), (418, 432, 1000), (386, 387, 65), (386, 387, 68)] s0 g53 := by
          rw [eg53]
          exact zFr_za F3 (by decide)
        have F5 : zFr [(386, 387, 1), (415, 416, 1000), (418, 432, 1000), (386, 387, 65), (386, 387, 68)] s0 g64 := by
          rw [eg64]
          exact zFr_za F4 (by decide)
        have eN : x8 = s0 388 (s0 386 12).toNat := by
          rw [ex8, ex1, rg.a (a := 388) (by decide), rg.s (a := 386) (k := 12) (by decide)]
        have ib := hi.1 v56_2.toNat (by omega)
        unfold IB at ib
        have t : x70 = s0 387 (2 + 7 * v56_2.toNat + 4) := by
          rw [ex70, F5.a (a := 387) (by decide), show x65.toNat = 2 + 7 * v56_2.toNat + 4 by omega]
        obtain ⟨hx1, -⟩ := hx
        obtain ⟨zb, zb1, zb2, -⟩ := h
        have hxb := hx1 (s0 386 12).toNat (by omega)
        omega
      refine ⟨oh73, ?_⟩
      intro g78 eg78
      intro x79 ex79
      intro x84 ex84 fx84 gx84
      intro x85 
      intro x86 ex86
      intro x91 ex91 fx91 gx91
      intro x92 
      intro g97 eg97
      intro g102 eg102
      intro g107 eg107
      intro x108 ex108
      have F0 : zFr [(386, 387, 1), (415, 416, 1000), (418, 432, 1000), (386, 387, 65), (386, 387, 68)] s0 g := rg
      have F1 : zFr [(386, 387, 1), (415, 416, 1000), (418, 432, 1000), (386, 387, 65), (386, 387, 68)] s0 g21 := F0.trans (rg21.mono (by decide))
      have F2 : zFr [(386, 387, 1), (415, 416, 1000), (418, 432, 1000), (386, 387, 65), (386, 387, 68)] s0 g28 := by
        rw [eg28]
        exact zFr_za F1 (by decide)
      have F3 : zFr [(386, 387, 1), (415, 416, 1000), (418, 432, 1000), (386, 387, 65), (386, 387, 68)] s0 g39 := by
        rw [eg39]
        exact zFr_za F2 (by decide)
      have F4 : zFr [(386, 387, 1), (415, 416, 1000), (418, 432, 1000), (386, 387, 65), (386, 387, 68)] s0 g53 := by
        rw [eg53]
        exact zFr_za F3 (by decide)
      have F5 : zFr [(386, 387, 1), (415, 416, 1000), (418, 432, 1000), (386, 387, 65), (386, 387, 68)] s0 g64 := by
        rw [eg64]
        exact zFr_za F4 (by decide)
      have F6 : zFr [(386, 387, 1), (415, 416, 1000), (418, 432, 1000), (386, 387, 65), (386, 387, 68)] s0 g78 := by
        rw [eg78]
        exact zFr_za F5 (by decide)
      have F7 : zFr [(386, 387, 1), (415, 416, 1000), (418, 432, 1000), (386, 387, 65), (386, 387, 68)] s0 g97 := by
        rw [eg97]
        exact zFr_za F6 (by decide)
      have F8 : zFr [(386, 387, 1), (415, 416, 1000), (418, 432, 1000), (386, 387, 65), (386, 387, 68)] s0 g102 := by
        rw [eg102]
        exact zFr_za F7 (by decide)
      have F9 : zFr [(386, 387, 1), (415, 416, 1000), (418, 432, 1000), (386, 387, 65), (386, 387, 68)] s0 g107 := by
        rw [eg107]
        exact zFr_za F8 (by decide)
      have a419 : g107 419 = zup1 (g 419) v56_2.toNat x17 := by
        rw [eg107, zup_na (by decide), eg102, zup_na (by decide), eg97, zup_na (by decide), eg78, zup_na (by decide), eg64, zup_na (by decide), eg53, zup_na (by decide), eg39, zup_na (by decide), eg28, zup_app, if_pos rfl, rg21.a (a := 419) (by decide)]
      have e1 : g107 386 1 = g 386 1 := by
        rw [eg107, zup_ne (Or.inl (by decide)), eg102, zup_ne (Or.inl (by decide)), eg97, zup_ne (Or.inl (by decide)), eg78, zup_ne (Or.inl (by decide)), eg64, zup_ne (Or.inl (by decide)), eg53, zup_ne (Or.inl (by decide)), eg39, zup_ne (Or.inl (by decide)), eg28, zup_ne (Or.inl (by decide)), rg21.s (a := 386) (k := 1) (by decide)]
      refine ⟨_, ?_, rfl, hi, fun p hq => ?_, e1.trans h1t⟩
      · omega
      · rw [a419, zup1_app]
        split
        · rename_i z
          rw [ex17, rg.a (a := 387) (by decide)]
          congr 1
          omega
        · rename_i z
          exact hp p (by omega)
    · skip
      have eN : x8 = s0 388 (s0 386 12).toNat := by
        rw [ex8, ex1, rg.a (a := 388) (by decide), rg.s (a := 386) (k := 12) (by decide)]
      exact ⟨_, by omega, rfl, hi, fun p hq => hp p (by omega), h1t⟩
  · intro n g v209_2 rg qv209_20 qv209_21 hI
    obtain ⟨hn, hi, hp, h1t⟩ := hI
    intro x113 hx1131 hx1132 g116 rg116 
    refine ⟨fun h118 => ?_, fun h118 => ?_⟩
    · skip
      intro x119 ex119 fx119 gx119
      intro x126 ex126 fx126 gx126
      intro x127 ex127
      intro x129 ex129
      intro x131 ex131
      intro x133 ex133
      intro x138 ex138 fx138 gx138
      intro g143 eg143
      intro x149 ex149
      intro x151 ex151
      intro x153 ex153
      intro x155 ex155
      intro x160 ex160 fx160 gx160
      intro g165 eg165
      intro x166 ex166
      have a419 : g165 419 = g 419 := by
        rw [eg165, zup_na (by decide), eg143, zup_na (by decide), rg116.a (a := 419) (by decide)]
      have e1 : g165 386 1 = g 386 1 := by
        rw [eg165, zup_ne (Or.inl (by decide)), eg143, zup_ne (Or.inl (by decide)), rg116.s (a := 386) (k := 1) (by decide)]
      refine ⟨_, ?_, rfl, hi, ?_, e1.trans h1t⟩
      · omega
      · rw [a419]
        exact hp
    · skip
      intro g172 eg172
      intro g177 eg177
      intro g182 eg182
      have F0 : zFr [(386, 387, 1), (415, 416, 1000), (418, 432, 1000), (386, 387, 65), (386, 387, 68)] s0 g := rg
      have F1 : zFr [(386, 387, 1), (415, 416, 1000), (418, 432, 1000), (386, 387, 65), (386, 387, 68)] s0 g116 := F0.trans (rg116.mono (by decide))
      have F2 : zFr [(386, 387, 1), (415, 416, 1000), (418, 432, 1000), (386, 387, 65), (386, 387, 68)] s0 g172 := by
        rw [eg172]
        exact zFr_za F1 (by decide)
      have F3 : zFr [(386, 387, 1), (415, 416, 1000), (418, 432, 1000), (386, 387, 65), (386, 387, 68)] s0 g177 := by
        rw [eg177]
        exact zFr_zup F2 (zINs_ok (by decide))
      have F4 : zFr [(386, 387, 1), (415, 416, 1000), (418, 432, 1000), (386, 387, 65), (386, 387, 68)] s0 g182 := by
        rw [eg182]
        exact zFr_zup F3 (zINs_ok (by decide))
      have a419 : g182 419 = g 419 := by
        rw [eg182, zup_na (by decide), eg177, zup_na (by decide), eg172, zup_na (by decide), rg116.a (a := 419) (by decide)]
      have e65 : g182 386 65 = 0 := by
        rw [eg182, zup_ne (Or.inr (by decide)), eg177, zup_eq]
      have e1 : g182 386 1 = g 386 1 := by
        rw [eg182, zup_ne (Or.inr (by decide)), eg177, zup_ne (Or.inr (by decide)), eg172, zup_ne (Or.inl (by decide)), rg116.s (a := 386) (k := 1) (by decide)]
      refine ⟨h.image (fun b hb => ?_) e65 (F4.s (by decide)) (F4.a (by decide)) (fun b w => w.fr F4 (by decide)), e1.trans h1t⟩
      obtain ⟨p, p1, p2⟩ := hi.sur h0 b hb
      exact ⟨p, p1, by rw [a419, hp p p1]; exact p2⟩
