/-! pure proofs (wip/safe/vcp.py) -/
set_option maxHeartbeats 4000000 in
theorem v_2377 {s0 : zF} (h : ZR s0) (hx : BX s0) : b_2377 s0 (fun g => ZR g ∧ BX g ∧ ∀ j : Nat, j < 12 → g 419 j = s0 419 j) := by
  obtain ⟨hx1, hx2, hx3, hx4, hx5⟩ := hx
  unfold b_2377
  intro x1 ex1 fx1 gx1
  refine ⟨fun h5 => ?_, fun h5 => ?_⟩
  · skip
    intro x6 ex6 fx6 gx6
    intro x10 ex10
    intro x12 ex12 fx12 gx12
    intro x16 ex16
    refine ⟨fun g' => CPY s0 x16 0 g', ?_, ?_⟩
    · skip
      exact v_2347 (by omega) (by omega) (by omega)
    · skip
      intro g23 rg23 qg23
      intro x26 ex26
      intro g32 eg32
      have F0 : zFr [(418, 433, 1000), (386, 387, 64), (386, 387, 65)] s0 s0 := zFr_refl
      have F1 : zFr [(418, 433, 1000), (386, 387, 64), (386, 387, 65)] s0 g23 := F0.trans (rg23.mono (by decide))
      have F2 : zFr [(418, 433, 1000), (386, 387, 64), (386, 387, 65)] s0 g32 := by
        rw [eg32]
        exact zFr_zup F1 (zINs_ok (by decide))
      have c : CPY s0 x16 0 g23 := qg23
      have E419 : s0 419 = s0 419 := by
        rfl
      have s65 : g32 386 65 = x1 + 1 := by
        rw [eg32, zup_eq]
        omega
      have s64 : g32 386 64 = x6 := by
        rw [eg32, zup_ne (Or.inr (by decide)), rg23.s (a := 386) (k := 64) (by decide)]
        exact ex6.symm
      have eg : g32 419 = g23 419 := by
        rw [eg32, zup_na (by decide)]
      refine ⟨h.keep ⟨hx1, hx2, hx3, hx4, hx5⟩ c E419 (u := x1) (f := x6) (by omega) (by omega) s65 s64 eg (F2.s (by decide)) (F2.a (by decide)) (fun b w => w.fr F2 (by decide)), ⟨by rw [F2.a (a := 388) (by decide)]; exact hx1, by omega, by omega, by omega, by omega⟩, fun j hj => ?_⟩
      rw [eg, c.2 j (by omega), E419]
  · skip
    intro x33 ex33 fx33 gx33
    intro x37 ex37
    intro x39 ex39 fx39 gx39
    intro g47 eg47
    intro x49 ex49
    intro g55 eg55
    intro x57 ex57
    intro x59 ex59 fx59 gx59
    intro x63 ex63
    refine ⟨fun g' => CPY g55 x63 0 g', ?_, ?_⟩
    · skip
      exact v_2347 (by omega) (by omega) (by omega)
    · skip
      intro g70 rg70 qg70
      intro x73 ex73
      intro g79 eg79
      have F0 : zFr [(418, 433, 1000), (386, 387, 64), (386, 387, 65)] s0 s0 := zFr_refl
      have F1 : zFr [(418, 433, 1000), (386, 387, 64), (386, 387, 65)] s0 g47 := by
        rw [eg47]
        exact zFr_zup F0 (zINs_ok (by decide))
      have F2 : zFr [(418, 433, 1000), (386, 387, 64), (386, 387, 65)] s0 g55 := by
        rw [eg55]
        exact zFr_zup F1 (zINs_ok (by decide))
      have F3 : zFr [(418, 433, 1000), (386, 387, 64), (386, 387, 65)] s0 g70 := F2.trans (rg70.mono (by decide))
      have F4 : zFr [(418, 433, 1000), (386, 387, 64), (386, 387, 65)] s0 g79 := by
        rw [eg79]
        exact zFr_zup F3 (zINs_ok (by decide))
      have c : CPY g55 x63 0 g70 := qg70
      have E419 : g55 419 = s0 419 := by
        rw [eg55, eg47, zup_na (by decide), zup_na (by decide)]
      have s65 : g79 386 65 = x49 + 1 := by
        rw [eg79, zup_eq]
        omega
      have s64 : g79 386 64 = x39 := by
        rw [eg79, zup_ne (Or.inr (by decide)), rg70.s (a := 386) (k := 64) (by decide)]
        rw [eg55, zup_ne (Or.inr (by decide)), eg47, zup_eq]
      have eg : g79 419 = g70 419 := by
        rw [eg79, zup_na (by decide)]
      refine ⟨h.keep ⟨hx1, hx2, hx3, hx4, hx5⟩ c E419 (u := x49) (f := x39) (by omega) (by omega) s65 s64 eg (F4.s (by decide)) (F4.a (by decide)) (fun b w => w.fr F4 (by decide)), ⟨by rw [F4.a (a := 388) (by decide)]; exact hx1, by omega, by omega, by omega, by omega⟩, fun j hj => ?_⟩
      rw [eg, c.2 j (by omega), E419]
