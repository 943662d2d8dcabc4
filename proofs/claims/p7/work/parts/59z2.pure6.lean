/-! pure proofs of the Reader: its small methods (wip/safe/vcp.py) -/
set_option maxHeartbeats 4000000 in
theorem v_1289 {s0 : zF} : b_1289 s0 (fun g => g = stp s0) := by
  unfold b_1289
  intro x1 ex1 fx1 gx1
  intro x5 ex5 fx5 gx5
  intro x9 ex9
  refine ⟨fun h11 => ?_, fun h11 => ?_⟩
  · skip
    intro x12 ex12
    intro g18 eg18
    show g18 = stp s0
    unfold stp
    rw [if_pos (by omega), eg18, show x12 = s0 2 7 + 1 by omega]
  · skip
    exact (if_neg (by omega)).symm
set_option maxHeartbeats 4000000 in
theorem v_1286 {s0 : zF} {a0 : Int} : b_1286 s0 a0 (fun _ g => (g 2 0, g 2 1) = (a0, if a0 = 1 ∧ s0 4 (s0 2 7).toNat = 1 then s0 5 (s0 2 7).toNat else s0 6 (s0 2 7).toNat)) := by
  unfold b_1286
  intro g5 eg5
  refine ⟨fun h6 => ?_, fun h6 => ?_⟩
  · skip
    intro x7 ex7 fx7 gx7
    intro x14 ex14 fx14 gx14
    intro g19 eg19
    have e7 : x7.toNat = (s0 2 7).toNat := by
      rw [ex7, eg5, zup_ne (Or.inr (by decide))]
    have e0 : g19 2 0 = a0 := by
      rw [eg19, zup_ne (Or.inr (by decide)), eg5, zup_eq]
    have e1 : g19 2 1 = x14 := by
      rw [eg19, zup_eq]
    show (g19 2 0, g19 2 1) = _
    rw [e0, e1]
    have ex : x14 = s0 6 (s0 2 7).toNat := by
      rw [ex14, e7, eg5, zup_ne (Or.inl (by decide))]
    rw [if_neg (by omega), ex]
  · skip
    intro x20 ex20 fx20 gx20
    intro x27 ex27 fx27 gx27
    refine ⟨fun h28 => ?_, fun h28 => ?_⟩
    · skip
      intro x32 ex32 fx32 gx32
      intro g37 eg37
      have e7 : x20.toNat = (s0 2 7).toNat := by
        rw [ex20, eg5, zup_ne (Or.inr (by decide))]
      have e0 : g37 2 0 = a0 := by
        rw [eg37, zup_ne (Or.inr (by decide)), eg5, zup_eq]
      have e1 : g37 2 1 = x32 := by
        rw [eg37, zup_eq]
      show (g37 2 0, g37 2 1) = _
      rw [e0, e1]
      have e4 : x27 = s0 4 (s0 2 7).toNat := by
        rw [ex27, e7, eg5, zup_ne (Or.inl (by decide))]
      have ex : x32 = s0 6 (s0 2 7).toNat := by
        rw [ex32, e7, eg5, zup_ne (Or.inl (by decide))]
      rw [if_neg (by omega), ex]
    · skip
      intro x41 ex41
      intro g46 eg46
      have e7 : x20.toNat = (s0 2 7).toNat := by
        rw [ex20, eg5, zup_ne (Or.inr (by decide))]
      have e0 : g46 2 0 = a0 := by
        rw [eg46, zup_ne (Or.inr (by decide)), eg5, zup_eq]
      have e1 : g46 2 1 = x41 := by
        rw [eg46, zup_eq]
      show (g46 2 0, g46 2 1) = _
      rw [e0, e1]
      have e4 : x27 = s0 4 (s0 2 7).toNat := by
        rw [ex27, e7, eg5, zup_ne (Or.inl (by decide))]
      have ex : x41 = s0 5 (s0 2 7).toNat := by
        rw [ex41, e7, eg5, zup_ne (Or.inl (by decide))]
      rw [if_pos ⟨by omega, by omega⟩, ex]
set_option maxHeartbeats 4000000 in
theorem v_1287 {s0 : zF} (hw : OWS s0) : b_1287 s0 (fun v g => g = s0 ∧ v = tokI (toks s0) (s0 2 7).toNat) := by
  refine ⟨fun n g v15_1 => n = (100 - v15_1).toNat ∧ s0 4 (s0 2 7).toNat = 2 ∧ ∀ k : Nat, (k : Int) < v15_1 → W5 k ≠ s0 5 (s0 2 7).toNat, ?_, ?_⟩
  · skip
    intro x17 ex17 fx17 gx17
    intro x24 ex24 fx24 gx24
    refine ⟨fun h25 => ?_, fun h25 => ?_⟩
    · skip
      refine ⟨rfl, ?_⟩
      show -1 = (if s0 4 (s0 2 7).toNat = 2 then owI (s0 5 (s0 2 7).toNat) else -1)
      rw [if_neg (by rw [← ex17, ← ex24]; omega)]
    · skip
      exact ⟨_, rfl, by rw [← ex17, ← ex24]; omega, fun k hk => by omega⟩
  · intro n g v15_1 rg qv15_10 qv15_11 hI
    obtain ⟨hn, h4, hk⟩ := hI
    have hg := zFr_nl rg
    refine ⟨fun h1 => ?_, fun h1 => ?_⟩
    · skip
      intro x5 ex5 fx5 gx5
      intro x6 ex6 fx6 gx6
      intro x13 ex13
      refine ⟨fun h14 => ?_, fun h14 => ?_⟩
      · skip
        intro x15 ex15
        refine ⟨_, ?_, rfl, h4, fun k hk2 => ?_⟩
        · omega
        · by_cases z : (k : Int) = v15_1
          · have e1 : W5 k = x5 := by
              rw [← hw k (by omega), ← hg, ex5]
              congr 1
              omega
            have e2 : s0 5 (s0 2 7).toNat = x13 := by
              rw [ex13, ex6, hg]
            omega
          · exact hk k (by omega)
      · skip
        refine ⟨hg, ?_⟩
        show v15_1 = (if s0 4 (s0 2 7).toNat = 2 then owI (s0 5 (s0 2 7).toNat) else -1)
        have e1 : s0 5 (s0 2 7).toNat = W5 v15_1.toNat := by
          rw [← hw v15_1.toNat (by omega), ← hg, ← ex6, ← ex13, ← ex5]
          omega
        rw [if_pos h4, e1, W5_own _ (by omega)]
        omega
    · skip
      refine ⟨hg, ?_⟩
      show -1 = (if s0 4 (s0 2 7).toNat = 2 then owI (s0 5 (s0 2 7).toNat) else -1)
      rw [if_pos h4, W5_none (fun k hk2 => hk k (by omega))]
set_option maxHeartbeats 4000000 in
theorem v_1299 {s0 : zF} {a0 : Int} : b_1299 s0 a0 (fun v g => g = s0 ∧ (v = 1 ∧ isSg (toks s0) a0 (s0 2 7).toNat ∨ v = 0 ∧ ¬ isSg (toks s0) a0 (s0 2 7).toNat)) := by
  unfold b_1299
  intro x1 ex1 fx1 gx1
  intro x8 ex8 fx8 gx8
  refine ⟨fun h9 => ?_, fun h9 => ?_⟩
  · skip
    have e8 : x8 = s0 4 (s0 2 7).toNat := by
      rw [ex8, ex1]
    exact ⟨rfl, Or.inr ⟨rfl, fun z => by
      have z1 : s0 4 (s0 2 7).toNat = 5 := z.1
      have z2 : s0 5 (s0 2 7).toNat = a0 := z.2
      omega⟩⟩
  · skip
    intro x13 ex13
    refine ⟨fun h14 => ?_, fun h14 => ?_⟩
    · skip
      have e8 : x8 = s0 4 (s0 2 7).toNat := by
        rw [ex8, ex1]
      have e13 : x13 = s0 5 (s0 2 7).toNat := by
        rw [ex13, ex1]
      exact ⟨rfl, Or.inr ⟨rfl, fun z => by
        have z1 : s0 4 (s0 2 7).toNat = 5 := z.1
        have z2 : s0 5 (s0 2 7).toNat = a0 := z.2
        omega⟩⟩
    · skip
      have e8 : x8 = s0 4 (s0 2 7).toNat := by
        rw [ex8, ex1]
      have e13 : x13 = s0 5 (s0 2 7).toNat := by
        rw [ex13, ex1]
      exact ⟨rfl, Or.inl ⟨rfl, (show s0 4 (s0 2 7).toNat = 5 ∧ s0 5 (s0 2 7).toNat = a0 by omega)⟩⟩
set_option maxHeartbeats 4000000 in
theorem v_1291 {s0 : zF} {a0 : Int} (hw : OWS s0) (ht : TW s0) (h0 : 0 ≤ a0) : b_1291 s0 a0 (fun v g => PO (nOw (toks s0) a0 (s0 2 7).toNat) v g) := by
  unfold b_1291
  refine ⟨fun v g' => g' = s0 ∧ v = tokI (toks s0) (s0 2 7).toNat, ?_, ?_⟩
  · skip
    exact v_1287 hw
  · skip
    intro x6 hx61 hx62 g9 rg9 qg9
    refine ⟨fun h11 => ?_, fun h11 => ?_⟩
    · skip
      refine ⟨fun _ g' => (g' 2 0, g' 2 1) = ((1 : Int), if (1 : Int) = 1 ∧ g9 4 (g9 2 7).toNat = 1 then g9 5 (g9 2 7).toNat else g9 6 (g9 2 7).toNat), ?_, ?_⟩
      · skip
        exact v_1286
      · skip
        intro x17 hx171 hx172 g20 rg20 qg20
        obtain ⟨q1, q2⟩ : g9 = s0 ∧ x6 = tokI (toks s0) (s0 2 7).toNat := qg9
        have q3 := qg20
        rw [q1] at q3
        refine Or.inr ⟨by omega, ?_⟩
        rw [q3]
        show nOw (toks s0) a0 (s0 2 7).toNat = _
        rw [show nOw (toks s0) a0 (s0 2 7).toNat = .inr (flt (toks s0) (s0 2 7).toNat) from if_neg (by omega)]
        unfold flt
        by_cases z : s0 4 (s0 2 7).toNat = 1
        · rw [if_pos (show (toks s0).1 (s0 2 7).toNat = 1 from z), if_pos ⟨rfl, z⟩]
          rfl
        · rw [if_neg (show ¬ (toks s0).1 (s0 2 7).toNat = 1 from z), if_neg (fun w => z w.2)]
          rfl
    · skip
      refine ⟨fun g' => g' = stp g9, ?_, ?_⟩
      · skip
        exact v_1289
      · skip
        intro g27 rg27 qg27
        obtain ⟨q1, q2⟩ : g9 = s0 ∧ x6 = tokI (toks s0) (s0 2 7).toNat := qg9
        have q3 : g27 = stp g9 := qg27
        rw [q1] at q3
        have hne : tokI (toks s0) (s0 2 7).toNat ≠ -1 := by omega
        have h4 : s0 4 (s0 2 7).toNat = 2 := by
          by_cases z : s0 4 (s0 2 7).toNat = 2
          · exact z
          · exact absurd (if_neg z) hne
        obtain ⟨w1, w2, w3⟩ := TW_stp ht (by omega) (by omega)
        rw [w1] at q3
        rw [q3]
        refine Or.inl ⟨rfl, ?_, w2⟩
        rw [w3]
        exact if_pos (by omega)
set_option maxHeartbeats 4000000 in
theorem v_258 {t : Nat} {s0 : zF} {a0 : Int} : b_258 t s0 a0 (fun v g => g = s0 ∧ v = if tknB s0 t a0 then 1 else 0) := by
  refine ⟨fun n g v2_1 v2_2 => n = (200 - v2_2).toNat ∧ v2_1 = a0 ∧ ∀ k : Nat, (k : Int) < v2_2 → s0 (t + 1) k ≠ a0, fun n g v30_1 v30_2 => n = (100 - v30_2).toNat ∧ v30_1 = a0 ∧ (∀ k : Nat, k < (s0 t 1).toNat → s0 (t + 1) k ≠ a0) ∧ ∀ k : Nat, (k : Int) < v30_2 → s0 (t + 7) k ≠ a0, ?_, ?_, ?_⟩
  · skip
    exact ⟨_, rfl, rfl, fun k hk => by omega⟩
  · intro n g v2_1 v2_2 rg qv2_20 qv2_21 hI
    obtain ⟨hn, hv, hk⟩ := hI
    have hg := zFr_nl rg
    intro x1 ex1 fx1 gx1
    refine ⟨fun h5 => ?_, fun h5 => ?_⟩
    · skip
      intro x9 ex9
      refine ⟨fun h10 => ?_, fun h10 => ?_⟩
      · skip
        intro x11 ex11
        refine ⟨_, ?_, rfl, hv, fun k hk2 => ?_⟩
        · omega
        · by_cases z : (k : Int) = v2_2
          · have e : s0 (t + 1) k = x9 := by
              rw [ex9, hg]
              congr 1
              omega
            omega
          · exact hk k (by omega)
      · skip
        have e : x1 = s0 t 1 := by
          rw [ex1, hg]
        have ew : s0 (t + 1) v2_2.toNat = a0 := by
          rw [← hg, ← ex9]
          omega
        refine ⟨hg, ?_⟩
        unfold tknB
        rw [any_T (f := s0 (t + 1)) (n := (s0 t 1).toNat) (k := v2_2.toNat) (by omega) ew]
        rfl
    · skip
      have e : x1 = s0 t 1 := by
        rw [ex1, hg]
      exact ⟨_, by omega, rfl, hv, fun k hk2 => hk k (by omega), fun k hk2 => by omega⟩
  · intro n g v30_1 v30_2 rg qv30_20 qv30_21 hI
    obtain ⟨hn, hv, hb, hk⟩ := hI
    have hg := zFr_nl rg
    intro x13 ex13 fx13 gx13
    refine ⟨fun h17 => ?_, fun h17 => ?_⟩
    · skip
      intro x21 ex21
      refine ⟨fun h22 => ?_, fun h22 => ?_⟩
      · skip
        intro x23 ex23
        refine ⟨_, ?_, rfl, hv, hb, fun k hk2 => ?_⟩
        · omega
        · by_cases z : (k : Int) = v30_2
          · have e : s0 (t + 7) k = x21 := by
              rw [ex21, hg]
              congr 1
              omega
            omega
          · exact hk k (by omega)
      · skip
        have e : x13 = s0 t 2 := by
          rw [ex13, hg]
        have ew : s0 (t + 7) v30_2.toNat = a0 := by
          rw [← hg, ← ex21]
          omega
        refine ⟨hg, ?_⟩
        unfold tknB
        rw [any_T (f := s0 (t + 7)) (n := (s0 t 2).toNat) (k := v30_2.toNat) (by omega) ew]
        rw [Bool.or_true]
        rfl
    · skip
      have e : x13 = s0 t 2 := by
        rw [ex13, hg]
      refine ⟨hg, ?_⟩
      unfold tknB
      rw [any_F (f := s0 (t + 1)) hb, any_F (f := s0 (t + 7)) (n := (s0 t 2).toNat) (fun k hk2 => hk k (by omega))]
      rfl
set_option maxHeartbeats 4000000 in
theorem v_1292 {s0 : zF} {a0 a1 : Int} (ht : TW s0) : b_1292 s0 a0 a1 (fun v g => PO (nNu (toks s0) a0 a1 (s0 2 7).toNat) v g ∧ (v = 1 → g 2 10 = s0 5 (s0 2 7).toNat)) := by
  unfold b_1292
  intro x1 ex1 fx1 gx1
  intro x8 ex8 fx8 gx8
  refine ⟨fun h9 => ?_, fun h9 => ?_⟩
  · skip
    refine ⟨fun _ g' => (g' 2 0, g' 2 1) = ((1 : Int), if (1 : Int) = 1 ∧ s0 4 (s0 2 7).toNat = 1 then s0 5 (s0 2 7).toNat else s0 6 (s0 2 7).toNat), ?_, ?_⟩
    · skip
      exact v_1286
    · skip
      intro x15 hx151 hx152 g18 rg18 qg18
      have e8 : x8 = s0 4 (s0 2 7).toNat := by
        rw [ex8, ex1]
      refine ⟨Or.inr ⟨by omega, ?_⟩, fun z => by omega⟩
      rw [nNu_0 (show s0 4 (s0 2 7).toNat ≠ 4 by omega), flt_q qg18]
  · skip
    intro x23 ex23
    intro g28 eg28
    refine ⟨fun h29 => ?_, fun h29 => ?_⟩
    · skip
      refine ⟨fun _ g' => (g' 2 0, g' 2 1) = ((4 : Int), if (4 : Int) = 1 ∧ g28 4 (g28 2 7).toNat = 1 then g28 5 (g28 2 7).toNat else g28 6 (g28 2 7).toNat), ?_, ?_⟩
      · skip
        exact v_1286
      · skip
        intro x35 hx351 hx352 g38 rg38 qg38
        have e8 : x8 = s0 4 (s0 2 7).toNat := by
          rw [ex8, ex1]
        have e23 : x23 = s0 5 (s0 2 7).toNat := by
          rw [ex23, ex1]
        have k7 : g28 2 7 = s0 2 7 := by
          rw [eg28, zup_ne (Or.inr (by decide))]
        have k6 : g28 6 = s0 6 := by
          rw [eg28, zup_na (by decide)]
        refine ⟨Or.inr ⟨by omega, ?_⟩, fun z => by omega⟩
        rw [nNu_4 (show s0 4 (s0 2 7).toNat = 4 by omega) (show s0 5 (s0 2 7).toNat < a0 ∨ a1 < s0 5 (s0 2 7).toNat by omega), els_q (by decide) qg38, k7, k6]
        rfl
    · skip
      refine ⟨fun h40 => ?_, fun h40 => ?_⟩
      · skip
        refine ⟨fun _ g' => (g' 2 0, g' 2 1) = ((4 : Int), if (4 : Int) = 1 ∧ g28 4 (g28 2 7).toNat = 1 then g28 5 (g28 2 7).toNat else g28 6 (g28 2 7).toNat), ?_, ?_⟩
        · skip
          exact v_1286
        · skip
          intro x46 hx461 hx462 g49 rg49 qg49
          have e8 : x8 = s0 4 (s0 2 7).toNat := by
            rw [ex8, ex1]
          have e23 : x23 = s0 5 (s0 2 7).toNat := by
            rw [ex23, ex1]
          have k7 : g28 2 7 = s0 2 7 := by
            rw [eg28, zup_ne (Or.inr (by decide))]
          have k6 : g28 6 = s0 6 := by
            rw [eg28, zup_na (by decide)]
          refine ⟨Or.inr ⟨by omega, ?_⟩, fun z => by omega⟩
          rw [nNu_4 (show s0 4 (s0 2 7).toNat = 4 by omega) (show s0 5 (s0 2 7).toNat < a0 ∨ a1 < s0 5 (s0 2 7).toNat by omega), els_q (by decide) qg49, k7, k6]
          rfl
      · skip
        refine ⟨fun g' => g' = stp g28, ?_, ?_⟩
        · skip
          exact v_1289
        · skip
          intro g56 rg56 qg56
          have e8 : x8 = s0 4 (s0 2 7).toNat := by
            rw [ex8, ex1]
          have e23 : x23 = s0 5 (s0 2 7).toNat := by
            rw [ex23, ex1]
          have k7 : g28 2 7 = s0 2 7 := by
            rw [eg28, zup_ne (Or.inr (by decide))]
          have k6 : g28 6 = s0 6 := by
            rw [eg28, zup_na (by decide)]
          have tw : TW g28 := TW_fr ht k7 (by rw [eg28, zup_ne (Or.inr (by decide))]) (by rw [eg28, zup_na (by decide)])
          have k4 : g28 4 (g28 2 7).toNat = 4 := by
            rw [k7, eg28, zup_ne (Or.inl (by decide))]
            omega
          obtain ⟨w1, w2, w3⟩ := TW_stp tw (by omega) (by omega)
          have q3 : g56 = stp g28 := qg56
          rw [w1] at q3
          rw [q3]
          refine ⟨Or.inl ⟨rfl, ?_, w2⟩, fun _ => ?_⟩
          · rw [w3, k7]
            exact nNu_1 (show s0 4 (s0 2 7).toNat = 4 by omega) (show ¬(s0 5 (s0 2 7).toNat < a0 ∨ a1 < s0 5 (s0 2 7).toNat) by omega)
          · rw [zup_ne (Or.inr (by decide)), eg28, zup_eq, e23]
set_option maxHeartbeats 4000000 in
theorem v_1290 {s0 : zF} (hw : OWS s0) (ht : TW s0) : b_1290 s0 (fun v g => PO (nNa (toks s0) (tknB s0 (s0 2 8).toNat) (s0 2 7).toNat) v g ∧ (v = 1 → g 2 9 = s0 5 (s0 2 7).toNat)) := by
  unfold b_1290
  intro x1 ex1 fx1 gx1
  intro x8 ex8 fx8 gx8
  refine ⟨fun h9 => ?_, fun h9 => ?_⟩
  · skip
    refine ⟨fun _ g' => (g' 2 0, g' 2 1) = ((1 : Int), if (1 : Int) = 1 ∧ s0 4 (s0 2 7).toNat = 1 then s0 5 (s0 2 7).toNat else s0 6 (s0 2 7).toNat), ?_, ?_⟩
    · skip
      exact v_1286
    · skip
      intro x15 hx151 hx152 g18 rg18 qg18
      have e8 : x8 = s0 4 (s0 2 7).toNat := by
        rw [ex8, ex1]
      refine ⟨Or.inr ⟨by omega, ?_⟩, fun z => by omega⟩
      rw [nNa_0 (fun z => by
        have z1 : s0 4 (s0 2 7).toNat = 2 := z.1
        omega), flt_q qg18]
  · skip
    refine ⟨fun v g' => g' = s0 ∧ v = tokI (toks s0) (s0 2 7).toNat, ?_, ?_⟩
    · skip
      exact v_1287 hw
    · skip
      intro x25 hx251 hx252 g28 rg28 qg28
      refine ⟨fun h30 => ?_, fun h30 => ?_⟩
      · skip
        refine ⟨fun _ g' => (g' 2 0, g' 2 1) = ((1 : Int), if (1 : Int) = 1 ∧ g28 4 (g28 2 7).toNat = 1 then g28 5 (g28 2 7).toNat else g28 6 (g28 2 7).toNat), ?_, ?_⟩
        · skip
          exact v_1286
        · skip
          intro x36 hx361 hx362 g39 rg39 qg39
          have e8 : x8 = s0 4 (s0 2 7).toNat := by
            rw [ex8, ex1]
          obtain ⟨q1, q2⟩ : g28 = s0 ∧ x25 = tokI (toks s0) (s0 2 7).toNat := qg28
          refine ⟨Or.inr ⟨by omega, ?_⟩, fun z => by omega⟩
          have q3 := qg39
          rw [q1] at q3
          rw [nNa_0 (fun z => by
            have z1 := z.2
            omega), flt_q q3]
      · skip
        intro x45 ex45
        intro g50 eg50
        intro b51 eb51 fb51
        refine ⟨fun v g' => g' = g50 ∧ v = if tknB g50 b51 x45 then 1 else 0, ?_, ?_⟩
        · skip
          exact v_258
        · skip
          intro x60 hx601 hx602 g63 rg63 qg63
          refine ⟨fun h65 => ?_, fun h65 => ?_⟩
          · skip
            refine ⟨fun _ g' => (g' 2 0, g' 2 1) = ((2 : Int), if (2 : Int) = 1 ∧ g63 4 (g63 2 7).toNat = 1 then g63 5 (g63 2 7).toNat else g63 6 (g63 2 7).toNat), ?_, ?_⟩
            · skip
              exact v_1286
            · skip
              intro x71 hx711 hx712 g74 rg74 qg74
              have e8 : x8 = s0 4 (s0 2 7).toNat := by
                rw [ex8, ex1]
              obtain ⟨q1, q2⟩ : g28 = s0 ∧ x25 = tokI (toks s0) (s0 2 7).toNat := qg28
              have e45 : x45 = s0 5 (s0 2 7).toNat := by
                rw [ex45, q1, ex1]
              have k7 : g50 2 7 = s0 2 7 := by
                rw [eg50, zup_ne (Or.inr (by decide)), q1]
              have k6 : g50 6 = s0 6 := by
                rw [eg50, zup_na (by decide), q1]
              have k4 : g50 4 = s0 4 := by
                rw [eg50, zup_na (by decide), q1]
              have kb : b51 = (s0 2 8).toNat := by
                have w : g50 2 8 = s0 2 8 := by
                  rw [eg50, zup_ne (Or.inr (by decide)), q1]
                omega
              obtain ⟨q3, q4⟩ : g63 = g50 ∧ x60 = (if tknB g50 b51 x45 then 1 else 0) := qg63
              have kt : tknB g50 b51 x45 = tknB s0 (s0 2 8).toNat (s0 5 (s0 2 7).toNat) := by
                rw [eg50, tknB_up (by omega), q1, kb, e45]
              rw [kt] at q4
              have hn : (toks s0).1 (s0 2 7).toNat = 2 ∧ tokI (toks s0) (s0 2 7).toNat = -1 := ⟨show s0 4 (s0 2 7).toNat = 2 by omega, by omega⟩
              refine ⟨Or.inr ⟨by omega, ?_⟩, fun z => by omega⟩
              have q5 := qg74
              rw [q3] at q5
              have ht2 : tknB s0 (s0 2 8).toNat (s0 5 (s0 2 7).toNat) = true := by
                cases z : tknB s0 (s0 2 8).toNat (s0 5 (s0 2 7).toNat) with
                | true => rfl
                | false =>
                  rw [z, if_neg (by decide)] at q4
                  exact absurd q4 (by omega)
              rw [nNa_2 hn ht2, els_q (by decide) q5, k7, k6]
              rfl
          · skip
            refine ⟨fun g' => g' = stp g63, ?_, ?_⟩
            · skip
              exact v_1289
            · skip
              intro g81 rg81 qg81
              have e8 : x8 = s0 4 (s0 2 7).toNat := by
                rw [ex8, ex1]
              obtain ⟨q1, q2⟩ : g28 = s0 ∧ x25 = tokI (toks s0) (s0 2 7).toNat := qg28
              have e45 : x45 = s0 5 (s0 2 7).toNat := by
                rw [ex45, q1, ex1]
              have k7 : g50 2 7 = s0 2 7 := by
                rw [eg50, zup_ne (Or.inr (by decide)), q1]
              have k6 : g50 6 = s0 6 := by
                rw [eg50, zup_na (by decide), q1]
              have k4 : g50 4 = s0 4 := by
                rw [eg50, zup_na (by decide), q1]
              have kb : b51 = (s0 2 8).toNat := by
                have w : g50 2 8 = s0 2 8 := by
                  rw [eg50, zup_ne (Or.inr (by decide)), q1]
                omega
              obtain ⟨q3, q4⟩ : g63 = g50 ∧ x60 = (if tknB g50 b51 x45 then 1 else 0) := qg63
              have kt : tknB g50 b51 x45 = tknB s0 (s0 2 8).toNat (s0 5 (s0 2 7).toNat) := by
                rw [eg50, tknB_up (by omega), q1, kb, e45]
              rw [kt] at q4
              have hn : (toks s0).1 (s0 2 7).toNat = 2 ∧ tokI (toks s0) (s0 2 7).toNat = -1 := ⟨show s0 4 (s0 2 7).toNat = 2 by omega, by omega⟩
              have ht2 : tknB s0 (s0 2 8).toNat (s0 5 (s0 2 7).toNat) = false := by
                cases z : tknB s0 (s0 2 8).toNat (s0 5 (s0 2 7).toNat) with
                | false => rfl
                | true =>
                  rw [z, if_pos rfl] at q4
                  omega
              have tw : TW g50 := TW_fr ht k7 (by rw [eg50, zup_ne (Or.inr (by decide)), q1]) k4
              have k44 : g50 4 (g50 2 7).toNat = 2 := by
                rw [k7, k4]
                omega
              obtain ⟨w1, w2, w3⟩ := TW_stp tw (by omega) (by omega)
              have q5 : g81 = stp g63 := qg81
              rw [q3, w1] at q5
              rw [q5]
              refine ⟨Or.inl ⟨rfl, ?_, w2⟩, fun _ => ?_⟩
              · rw [w3, k7]
                exact nNa_1 hn ht2
              · rw [zup_ne (Or.inr (by decide)), eg50, zup_eq, e45]
