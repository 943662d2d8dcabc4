/-! pure proofs (wip/safe/vcp.py) -/
set_option maxHeartbeats 4000000 in
theorem v_2345 {s0 : zF} (h : ZR s0) (hx : BX s0) : b_2345 s0 (fun _ g => ZR g) := by
  obtain ⟨hx1, hx2, hx3, hx4, hx5⟩ := hx
  unfold b_2345
  intro x1 ex1 fx1 gx1
  refine ⟨fun h5 => ?_, fun h5 => ?_⟩
  · skip
    intro x6 ex6
    intro g12 eg12
    intro x13 ex13 fx13 gx13
    intro x17 ex17
    intro x19 ex19 fx19 gx19
    intro x23 ex23
    refine ⟨fun g' => CPY g12 0 x23 g', ?_, ?_⟩
    · skip
      exact v_2347 (by omega) (by omega) (by omega)
    · skip
      intro g30 rg30 qg30
      have F0 : zFr [(415, 416, 1000), (418, 433, 1000), (386, 387, 65)] s0 s0 := zFr_refl
      have F1 : zFr [(415, 416, 1000), (418, 433, 1000), (386, 387, 65)] s0 g12 := by
        rw [eg12]
        exact zFr_zup F0 (zINs_ok (by decide))
      have F2 : zFr [(415, 416, 1000), (418, 433, 1000), (386, 387, 65)] s0 g30 := F1.trans (rg30.mono (by decide))
      have c : CPY g12 0 x23 g30 := qg30
      have E419 : g12 419 = s0 419 := by
        rw [eg12, zup_na (by decide)]
      have s65 : g30 386 65 = x6 := by
        rw [rg30.s (a := 386) (k := 65) (by decide), eg12, zup_eq]
      have s64 : g12 386 64 = s0 386 64 := by
        rw [eg12, zup_ne (Or.inr (by decide))]
      exact h.undo ⟨hx1, hx2, hx3, hx4, hx5⟩ c E419 (u := x6) (by omega) (by omega) (by omega) s65 (F2.s (by decide)) (F2.s (by decide)) (F2.a (by decide)) (fun b w => w.fr F2 (by decide))
  · skip
    intro x35 hx351 hx352 g38 rg38 
    exact h.fr rg38 rfl
set_option maxHeartbeats 4000000 in
theorem v_2376 {s0 : zF} {a0 : Int} (h : ZR s0) (hx : BX s0) : b_2376 s0 a0 (fun _ g => ZR g) := by
  refine ⟨fun n g v46_1 v46_2 => n = (1000 - v46_2).toNat ∧ ZR g, ?_, ?_⟩
  · skip
    refine ⟨fun h24 => ?_, fun h24 => ?_⟩
    · skip
      intro x28 hx281 hx282 g31 rg31 
      exact h.fr rg31 rfl
    · skip
      refine ⟨fun h33 => ?_, fun h33 => ?_⟩
      · skip
        intro x37 hx371 hx372 g40 rg40 
        exact h.fr rg40 rfl
      · skip
        intro x42 ex42 fx42 gx42
        intro x49 ex49 fx49 gx49
        refine ⟨fun h50 => ?_, fun h50 => ?_⟩
        · skip
          intro x54 ex54
          refine ⟨fun h55 => ?_, fun h55 => ?_⟩
          · skip
            refine ⟨fun g' => ZR g' ∧ BX g' ∧ ∀ j : Nat, j < 12 → g' 419 j = s0 419 j, ?_, ?_⟩
            · skip
              exact v_2377 h hx
            · skip
              intro g61 rg61 qg61
              intro g67 eg67
              have k : ZR g61 ∧ _ := qg61
              refine ⟨_, rfl, ?_⟩
              rw [eg67]
              exact k.1.zs rfl
          · skip
            intro x71 hx711 hx712 g74 rg74 
            exact h.fr rg74 rfl
        · skip
          intro x79 hx791 hx792 g82 rg82 
          exact h.fr rg82 rfl
  · intro n g v46_1 v46_2 rg qv46_10 qv46_11 qv46_20 qv46_21 hI
    obtain ⟨hn, hz⟩ := hI
    refine ⟨fun h1 => ?_, fun h1 => ?_⟩
    · skip
      intro x5 ex5
      refine ⟨fun h6 => ?_, fun h6 => ?_⟩
      · skip
        refine ⟨fun _ => True, ?_, ?_⟩
        · skip
          exact v_2378 hz.ia (by decide)
        · skip
          intro g12 rg12 qg12
          intro x14 ex14
          exact ⟨_, by omega, rfl, hz.fr rg12 rfl⟩
      · skip
        intro x16 ex16
        exact hz
    · skip
      intro x20 ex20
      exact hz
set_option maxHeartbeats 4000000 in
theorem v_2391 {s0 : zF} {a0 a1 : Int} (h : ZR s0) (hx : BX s0) : b_2391 s0 a0 a1 (fun _ g => ZR g) := by
  unfold b_2391
  refine ⟨fun h1 => ?_, fun h1 => ?_⟩
  · skip
    intro x5 hx51 hx52 g8 rg8 
    exact h.fr rg8 rfl
  · skip
    intro x10 ex10 fx10 gx10
    intro x17 ex17 fx17 gx17
    refine ⟨fun h18 => ?_, fun h18 => ?_⟩
    · skip
      refine ⟨fun h19 => ?_, fun h19 => ?_⟩
      · skip
        intro x23 hx231 hx232 g26 rg26 
        exact h.fr rg26 rfl
      · skip
        intro x31 ex31 fx31 gx31
        refine ⟨fun h32 => ?_, fun h32 => ?_⟩
        · skip
          intro x33 ex33
          intro x38 ex38 fx38 gx38
          refine ⟨fun h39 => ?_, fun h39 => ?_⟩
          · skip
            intro x43 hx431 hx432 g46 rg46 
            exact h.fr rg46 rfl
          · skip
            intro x48 ex48
            intro x50 ex50
            intro x55 ex55 fx55 gx55
            intro x56 ex56 fx56
            refine ⟨fun h59 => ?_, fun h59 => ?_⟩
            · skip
              intro x63 hx631 hx632 g66 rg66 
              exact h.fr rg66 rfl
            · skip
              intro x68 ex68
              intro x73 ex73 fx73 gx73
              refine ⟨fun h74 => ?_, fun h74 => ?_⟩
              · skip
                intro x78 hx781 hx782 g81 rg81 
                exact h.fr rg81 rfl
              · skip
                refine ⟨fun g' => ZR g' ∧ BX g' ∧ ∀ j : Nat, j < 12 → g' 419 j = s0 419 j, ?_, ?_⟩
                · skip
                  exact v_2377 h hx
                · skip
                  intro g88 rg88 qg88
                  intro x93 ex93
                  refine ⟨fun _ _ => True, ?_, ?_⟩
                  · skip
                    have k : ZR g88 ∧ _ := qg88
                    refine v_2380 k.1.ia (by decide) (k.1.at (by omega) ?_)
                    rw [rg88.a (a := 388) (by decide), rg88.s (a := 386) (k := 12) (by decide), ← ex10, ← ex17]
                    omega
                  · skip
                    intro x99 g102 rg102 qg102
                    have k : ZR g88 ∧ _ := qg88
                    exact k.1.fr rg102 rfl
        · skip
          intro x107 hx1071 hx1072 g110 rg110 
          exact h.fr rg110 rfl
    · skip
      intro x115 hx1151 hx1152 g118 rg118 
      exact h.fr rg118 rfl
