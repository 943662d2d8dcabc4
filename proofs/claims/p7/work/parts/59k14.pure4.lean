/-! pure proofs (wip/safe/vcp.py) -/
set_option maxHeartbeats 4000000 in
theorem v_2407 {s0 : zF} (h : ZR s0) (hx : BX s0) : b_2407 s0 (fun _ g => ZR g) := by
  refine ⟨fun n g v33_1 => n = (100 - v33_1).toNat ∧ 0 ≤ v33_1 ∧ ∃ k : zF, ZR k ∧ BX k ∧ zFr [(419, 420, 1000)] k g ∧ k 388 (k 386 12).toNat = g 386 70 ∧ SurR g (g 386 70) ∧ (∀ j : Nat, (j : Int) < v33_1 → g 419 j = g 434 j) ∧ ∀ j : Nat, 12 ≤ j → g 419 j = k 419 j, ?_, ?_⟩
  · skip
    intro x21 ex21 fx21 gx21
    intro x28 ex28 fx28 gx28
    refine ⟨fun h29 => ?_, fun h29 => ?_⟩
    · skip
      refine ⟨fun _ g' => SurR g' (s0 388 (s0 386 12).toNat) ∧ g' 386 70 = s0 388 (s0 386 12).toNat, ?_, ?_⟩
      · skip
        exact v_2406 h hx
      · skip
        intro x35 g38 rg38 qg38
        intro x40 ex40
        refine ⟨fun h44 => ?_, fun h44 => ?_⟩
        · skip
          refine ⟨fun g' => ZR g' ∧ BX g' ∧ ∀ j : Nat, j < 12 → g' 419 j = g38 419 j, ?_, ?_⟩
          · skip
            exact v_2377 (h.fr rg38 rfl) (hx.fr rg38 rfl)
          · skip
            intro g50 rg50 qg50
            obtain ⟨q1, q2⟩ := (qg38 : SurR g38 (s0 388 (s0 386 12).toNat) ∧ _)
            have k : ZR g50 ∧ BX g50 ∧ _ := qg50
            have e70 : g50 386 70 = g38 386 70 := rg50.s (by decide)
            refine ⟨_, rfl, by decide, g50, k.1, k.2.1, zFr_refl, ?_, ?_, fun j hj => by omega, fun j _ => rfl⟩
            · rw [rg50.a (a := 388) (by decide), rg50.s (a := 386) (k := 12) (by decide), rg38.a (a := 388) (by decide), rg38.s (a := 386) (k := 12) (by decide), e70]
              exact q2.symm
            · rw [e70, q2]
              exact q1.of (rg50.a (by decide))
        · skip
          exact h.fr rg38 rfl
    · skip
      intro x55 hx551 hx552 g58 rg58 
      exact h.fr rg58 rfl
  · intro n g v33_1 rg qv33_10 qv33_11 hI
    obtain ⟨hn, hv, k, zk, bk, fk, hN, hs, hp, ho⟩ := hI
    have hz : g 386 70 ≤ v33_1 → ZR g := by
      intro hle
      refine zk.rows bk (fun b hb => ?_) ho (fk.s (by decide)) (fk.a (by decide)) (fk.s (by decide)) (fk.s (by decide)) (fun b w => w.fr fk (by decide))
      rw [hN] at hb ⊢
      obtain ⟨p, p1, p2⟩ := hs b hb
      exact ⟨p, p1, by rw [hp p (by omega)]; exact p2⟩
    intro x1 ex1 fx1 gx1
    refine ⟨fun h5 => ?_, fun h5 => ?_⟩
    · skip
      intro x9 ex9 fx9 gx9
      intro g14 eg14
      intro x15 ex15
      have a419 : g14 419 = zup1 (g 419) v33_1.toNat x9 := by
        rw [eg14, zup_app, if_pos rfl]
      have s70 : g14 386 70 = g 386 70 := by
        rw [eg14, zup_ne (Or.inl (by decide))]
      have s434 : g14 434 = g 434 := by
        rw [eg14, zup_na (by decide)]
      refine ⟨_, ?_, rfl, by omega, k, zk, bk, ?_, ?_, ?_, fun j hj => ?_, fun j hj => ?_⟩
      · omega
      · rw [eg14]
        exact zFr_za fk (by decide)
      · rw [s70]
        exact hN
      · rw [s70]
        exact hs.of s434
      · rw [a419, s434, zup1_app]
        split
        · rename_i hq
          rw [hq]
          exact ex9
        · exact hp j (by omega)
      · rw [a419, zup1_ne (by omega)]
        exact ho j hj
    · skip
      intro x17 ex17
      exact hz (by omega)
