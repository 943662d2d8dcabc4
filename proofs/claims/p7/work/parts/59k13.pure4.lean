/-! pure proofs (wip/safe/vcp.py) -/
set_option maxHeartbeats 4000000 in
theorem v_2406 {s0 : zF} (h : ZR s0) (hx : BX s0) : b_2406 s0 (fun _ g => SurR g (s0 388 (s0 386 12).toNat) ∧ g 386 70 = s0 388 (s0 386 12).toNat) := by
  refine ⟨fun n g v17_1 v17_2 => n = (if v17_2 = 1 then 400 * (v17_1 + 2147483648) + 399 else 0).toNat ∧ SurR g (s0 388 (s0 386 12).toNat) ∧ g 386 70 = s0 388 (s0 386 12).toNat, fun n g v32_3 v32_4 v32_5 v32_6 => ∃ w : Int, n = (400 * (w + 2147483648) + 300 - 20 * v32_6).toNat ∧ SurR g (s0 388 (s0 386 12).toNat) ∧ g 386 70 = s0 388 (s0 386 12).toNat ∧ -2147483648 ≤ w ∧ 0 ≤ v32_6 ∧ v32_6 ≤ 12 ∧ (v32_3 = -1 ∧ v32_4 = -1 ∧ v32_5 = w ∨ 0 ≤ v32_3 ∧ v32_3 < s0 388 (s0 386 12).toNat ∧ 0 ≤ v32_4 ∧ v32_4 < s0 388 (s0 386 12).toNat ∧ v32_5 < w), fun n g v47_3 v47_4 v47_5 v47_6 v47_7 => ∃ w : Int, n = (400 * (w + 2147483648) + 300 - 20 * v47_6 - 1 - v47_7).toNat ∧ SurR g (s0 388 (s0 386 12).toNat) ∧ g 386 70 = s0 388 (s0 386 12).toNat ∧ -2147483648 ≤ w ∧ 0 ≤ v47_6 ∧ v47_6 < s0 388 (s0 386 12).toNat ∧ v47_6 < v47_7 ∧ v47_7 ≤ 12 ∧ (v47_3 = -1 ∧ v47_4 = -1 ∧ v47_5 = w ∨ 0 ≤ v47_3 ∧ v47_3 < s0 388 (s0 386 12).toNat ∧ 0 ≤ v47_4 ∧ v47_4 < s0 388 (s0 386 12).toNat ∧ v47_5 < w), ?_, ?_, ?_, ?_⟩
  · skip
    refine ⟨fun g' => RN s0 0 g', ?_, ?_⟩
    · skip
      exact v_2363 (by decide)
    · skip
      intro g79 rg79 qg79
      intro g85 eg85
      have oh88 : zIa g85 := by
        have F0 : zFr [(416, 418, 1000), (434, 436, 1000), (386, 387, 70), (386, 387, 71), (386, 387, 72), (386, 387, 74), (386, 387, 77)] s0 s0 := zFr_refl
        have F1 : zFr [(416, 418, 1000), (434, 436, 1000), (386, 387, 70), (386, 387, 71), (386, 387, 72), (386, 387, 74), (386, 387, 77)] s0 g79 := F0.trans (rg79.mono (by decide))
        have F2 : zFr [(416, 418, 1000), (434, 436, 1000), (386, 387, 70), (386, 387, 71), (386, 387, 72), (386, 387, 74), (386, 387, 77)] s0 g85 := by
          rw [eg85]
          exact zFr_zup F1 (zINs_ok (by decide))
        exact zIa_fr h.ia F2 rfl
      refine ⟨oh88, ?_⟩
      intro x90 g93 rg93 
      have rn : RN s0 0 g79 := qg79
      have hs := h.rn rn
      have e434 : g93 434 = g79 434 := by
        rw [rg93.a (a := 434) (by decide), eg85, zup_na (by decide)]
      refine ⟨_, rfl, hs.of e434, ?_⟩
      rw [rg93.s (a := 386) (k := 70) (by decide), eg85, zup_ne (Or.inr (by decide))]
      exact rn.1
  · intro n g v17_1 v17_2 rg qv17_10 qv17_11 qv17_20 qv17_21 hI
    obtain ⟨hn, hs, h70⟩ := hI
    have ia : zIa g := zIa_fr h.ia rg rfl
    refine ⟨fun h1 => ?_, fun h1 => ?_⟩
    · skip
      refine ⟨_, ?_, v17_1, rfl, hs, h70, qv17_10, by decide, by decide, Or.inl ⟨rfl, rfl, rfl⟩⟩
      rw [hn, if_pos (by omega)]
      omega
    · skip
      exact ⟨hs, h70⟩
  · intro n g v32_3 v32_4 v32_5 v32_6 rg qv32_30 qv32_31 qv32_40 qv32_41 qv32_50 qv32_51 qv32_60 qv32_61 hI
    obtain ⟨w, hn, hs, h70, hw, hv6, hv6b, hv⟩ := hI
    have ia : zIa g := zIa_fr h.ia rg rfl
    intro x2 ex2 fx2 gx2
    refine ⟨fun h6 => ?_, fun h6 => ?_⟩
    · skip
      intro x7 ex7
      refine ⟨_, ?_, w, rfl, hs, h70, hw, by omega, by omega, by omega, by omega, hv⟩
      rw [hn]
      omega
    · skip
      refine ⟨fun h9 => ?_, fun h9 => ?_⟩
      · skip
        have oh10 : (0 ≤ v32_4) := by
          omega
        refine ⟨oh10, ?_⟩
        refine ⟨fun g' => g' 434 = zup1 (zup1 (g 434) (v32_3 : Int).toNat (g 434 (v32_4 : Int).toNat)) (v32_4 : Int).toNat (g 434 (v32_3 : Int).toNat), ?_, ?_⟩
        · skip
          exact v_2404
        · skip
          intro g16 rg16 qg16
          intro x18 ex18
          intro x22 
          intro g27 eg27
          have c : g16 434 = _ := qg16
          have hs2 := hs.swap (p := v32_3) (q := v32_4) (by omega) (by omega) c
          refine ⟨_, ?_, rfl, hs2.of ?_, ?_⟩
          · rw [hn, if_pos rfl]
            omega
          · rw [eg27, zup_na (by decide)]
          · rw [eg27, zup_ne (Or.inr (by decide)), rg16.s (a := 386) (k := 70) (by decide)]
            exact h70
      · skip
        intro x28 ex28
        intro x32 ex32
        intro g38 eg38
        refine ⟨_, ?_, rfl, hs.of ?_, ?_⟩
        · rw [hn, if_neg (by decide)]
          omega
        · rw [eg38, zup_na (by decide)]
        · rw [eg38, zup_ne (Or.inr (by decide))]
          exact h70
  · intro n g v47_3 v47_4 v47_5 v47_6 v47_7 rg qv47_30 qv47_31 qv47_40 qv47_41 qv47_50 qv47_51 qv47_60 qv47_61 qv47_70 qv47_71 hI
    obtain ⟨w, hn, hs, h70, hw, hv6, hv6b, hv7, hv7b, hv⟩ := hI
    have ia : zIa g := zIa_fr h.ia rg rfl
    intro x39 ex39 fx39 gx39
    refine ⟨fun h43 => ?_, fun h43 => ?_⟩
    · skip
      refine ⟨fun g' => g' 434 = zup1 (zup1 (g 434) (v47_6 : Int).toNat (g 434 (v47_7 : Int).toNat)) (v47_7 : Int).toNat (g 434 (v47_6 : Int).toNat), ?_, ?_⟩
      · skip
        exact v_2404
      · skip
        intro g49 rg49 qg49
        have oh53 : zIa g49 := by
          have F0 : zFr [(416, 418, 1000), (434, 436, 1000), (386, 387, 70), (386, 387, 71), (386, 387, 72), (386, 387, 74), (386, 387, 77)] s0 g := rg
          have F1 : zFr [(416, 418, 1000), (434, 436, 1000), (386, 387, 70), (386, 387, 71), (386, 387, 72), (386, 387, 74), (386, 387, 77)] s0 g49 := F0.trans (rg49.mono (by decide))
          exact zIa_fr h.ia F1 rfl
        refine ⟨oh53, ?_⟩
        intro x55 g58 rg58 
        refine ⟨fun g' => g' 434 = zup1 (zup1 (g58 434) (v47_6 : Int).toNat (g58 434 (v47_7 : Int).toNat)) (v47_7 : Int).toNat (g58 434 (v47_6 : Int).toNat), ?_, ?_⟩
        · skip
          exact v_2404
        · skip
          intro g65 rg65 qg65
          refine ⟨fun h67 => ?_, fun h67 => ?_⟩
          · skip
            intro x68 ex68
            have c1 : g49 434 = _ := qg49
            have s1 := hs.swap (p := v47_6) (q := v47_7) (by omega) (by omega) c1
            have s2 := s1.of (rg58.a (a := 434) (by decide))
            have c2 : g65 434 = _ := qg65
            have s3 := s2.swap (p := v47_6) (q := v47_7) (by omega) (by omega) c2
            have t70 : g65 386 70 = s0 388 (s0 386 12).toNat := by
              rw [rg65.s (a := 386) (k := 70) (by decide), rg58.s (a := 386) (k := 70) (by decide), rg49.s (a := 386) (k := 70) (by decide)]
              exact h70
            refine ⟨_, ?_, w, rfl, s3, t70, hw, by omega, by omega, by omega, by omega, by omega⟩
            rw [hn]
            omega
          · skip
            intro x70 ex70
            have c1 : g49 434 = _ := qg49
            have s1 := hs.swap (p := v47_6) (q := v47_7) (by omega) (by omega) c1
            have s2 := s1.of (rg58.a (a := 434) (by decide))
            have c2 : g65 434 = _ := qg65
            have s3 := s2.swap (p := v47_6) (q := v47_7) (by omega) (by omega) c2
            have t70 : g65 386 70 = s0 388 (s0 386 12).toNat := by
              rw [rg65.s (a := 386) (k := 70) (by decide), rg58.s (a := 386) (k := 70) (by decide), rg49.s (a := 386) (k := 70) (by decide)]
              exact h70
            refine ⟨_, ?_, w, rfl, s3, t70, hw, by omega, by omega, by omega, by omega, by omega⟩
            rw [hn]
            omega
    · skip
      intro x72 ex72
      refine ⟨_, ?_, w, rfl, hs, h70, hw, by omega, by omega, hv⟩
      rw [hn]
      omega
set_option maxHeartbeats 4000000 in
theorem v_2405 {s0 : zF} {a0 : Int} (h : ZR s0) (hx : BX s0) : b_2405 s0 a0 (fun _ _ => True) := by
  unfold b_2405
  intro x1 ex1 fx1 gx1
  intro x8 ex8 fx8 gx8
  refine ⟨fun h9 => ?_, fun h9 => ?_⟩
  · skip
    refine ⟨fun h10 => ?_, fun h10 => ?_⟩
    · skip
      refine ⟨fun h11 => ?_, fun h11 => ?_⟩
      · skip
        refine ⟨fun h12 => ?_, fun h12 => ?_⟩
        · skip
          trivial
        · skip
          refine ⟨fun h16 => ?_, fun h16 => ?_⟩
          · skip
            refine ⟨fun _ g' => SurR g' (s0 388 (s0 386 12).toNat) ∧ g' 386 70 = s0 388 (s0 386 12).toNat, ?_, ?_⟩
            · skip
              exact v_2406 h hx
            · skip
              intro x22 g25 rg25 qg25
              intro x30 ex30 fx30 gx30
              trivial
          · skip
            trivial
      · skip
        refine ⟨fun _ g' => SurR g' (s0 388 (s0 386 12).toNat) ∧ g' 386 70 = s0 388 (s0 386 12).toNat, ?_, ?_⟩
        · skip
          exact v_2406 h hx
        · skip
          intro x36 g39 rg39 qg39
          intro x41 ex41
          trivial
    · skip
      refine ⟨fun _ g' => SurR g' (s0 388 (s0 386 12).toNat) ∧ g' 386 70 = s0 388 (s0 386 12).toNat, ?_, ?_⟩
      · skip
        exact v_2406 h hx
      · skip
        intro x50 g53 rg53 qg53
        trivial
  · skip
    trivial
